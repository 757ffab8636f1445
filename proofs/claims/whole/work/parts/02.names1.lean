/-- a word that stays true when the tables get warmer -/
def kw_G (w : Cond) : Bool := goodWord w || (w.onTables && w.keepsFace)
theorem kw_at {args a2 : Array Value} {s U : State} (hW : s.WarmedH U.vm) {w : Cond} (hg : kw_G w = true) (h : w.before args s = true) : w.before a2 U = true := by
  unfold kw_G at hg
  rw [Bool.or_eq_true] at hg
  rcases hg with hg | hg
  · exact word_at hW (good_of_word hg) h
  · rw [Bool.and_eq_true] at hg
    have h1 : w.before args (s.setVm U.vm) = true := Cond.before_shiftedFace (State.Shifted.of_warmed hW) w hg.2 h
    have h2 := Cond.onTables_vm (A := args) (A' := a2) (U := s) (U' := U) U.vm w hg.1
    rw [h2, State.setVm_self] at h1
    exact h1
/-- all words that the walks use -/
def kw_L : List Cond := lw_tbl.filter kw_G
theorem kw_in {w : Cond} (i : Nat) (h : tables_1[i]? = some w) (g : kw_G w = true) : w ∈ kw_L := List.mem_filter.mpr ⟨List.mem_append_right _ (List.mem_of_getElem? h), g⟩
theorem kw_pr {w : Cond} (h : w ∈ k2_sels lw_privs) (g : kw_G w = true) : w ∈ kw_L := List.mem_filter.mpr ⟨List.mem_append_left _ h, g⟩
theorem kw_ok {w : Cond} (h : w ∈ kw_L) : kw_G w = true := (List.mem_filter.mp h).2
theorem kw_hts {args : Array Value} {s : State} (h : ∀ w ∈ lw_tbl, w.before args s = true) : ∀ w ∈ kw_L, w.before args s = true := fun w hw => h w (List.mem_filter.mp hw).1

def T_PR : u_T := fun k => match k with
  | 0 => ("ProfileRights", "groups", "Ljava/util/ArrayList;", true)
  | 1 => ("ProfileRights", "users", "Ljava/util/ArrayList;", true)
  | 2 => ("ProfileRights", "profiles", "Ljava/util/ArrayList;", true)
  | 3 => ("ProfileRights", "modes", "[I", true)
  | 4 => ("ProfileRights", "asked", "LProfileRights$Name;", true)
  | 5 => ("ProfileRights", "trail", "LProfileRights$Trail;", true)
  | _ => ("ProfileRights", "latestProfile", "I", false)
def t_PR : Nat → FieldType := fun k => match k with
  | 0 => .object "java/util/ArrayList"
  | 1 => .object "java/util/ArrayList"
  | 2 => .object "java/util/ArrayList"
  | 3 => .array .int
  | 4 => .object "ProfileRights$Name"
  | 5 => .object "ProfileRights$Trail"
  | _ => .int
theorem n_PR : ∀ a, a < 7 → ∀ b, b < 7 → a ≠ b → (T_PR a).2.1 ≠ (T_PR b).2.1 := by decide +kernel
theorem o_PR : ∀ k, k < 7 → parseFieldDescriptor (T_PR k).2.2.1 = some (t_PR k) := by decide +kernel
theorem i_PR_0 : u_lay "ProfileRights" T_PR 0 ∈ kw_L := kw_in 102 (by decide +kernel) (by decide +kernel)
theorem i_PR_1 : u_lay "ProfileRights" T_PR 1 ∈ kw_L := kw_in 104 (by decide +kernel) (by decide +kernel)
theorem i_PR_2 : u_lay "ProfileRights" T_PR 2 ∈ kw_L := kw_in 106 (by decide +kernel) (by decide +kernel)
theorem i_PR_3 : u_lay "ProfileRights" T_PR 3 ∈ kw_L := kw_in 108 (by decide +kernel) (by decide +kernel)
theorem i_PR_4 : u_lay "ProfileRights" T_PR 4 ∈ kw_L := kw_in 110 (by decide +kernel) (by decide +kernel)
theorem i_PR_5 : u_lay "ProfileRights" T_PR 5 ∈ kw_L := kw_in 112 (by decide +kernel) (by decide +kernel)
theorem i_PR_6 : u_lay "ProfileRights" T_PR 6 ∈ kw_L := kw_in 114 (by decide +kernel) (by decide +kernel)
theorem i_PR : ∀ w ∈ u_ws "ProfileRights" T_PR 7, w ∈ kw_L := by
  intro w hw
  have h1 : w ∈ [u_lay "ProfileRights" T_PR 0, u_lay "ProfileRights" T_PR 1, u_lay "ProfileRights" T_PR 2, u_lay "ProfileRights" T_PR 3, u_lay "ProfileRights" T_PR 4, u_lay "ProfileRights" T_PR 5, u_lay "ProfileRights" T_PR 6] := hw
  simp only [List.mem_cons, List.not_mem_nil, or_false] at h1
  rcases h1 with h1 | h1 | h1 | h1 | h1 | h1 | h1
  · rw [h1]; exact i_PR_0
  · rw [h1]; exact i_PR_1
  · rw [h1]; exact i_PR_2
  · rw [h1]; exact i_PR_3
  · rw [h1]; exact i_PR_4
  · rw [h1]; exact i_PR_5
  · rw [h1]; exact i_PR_6
def T_GR : u_T := fun k => match k with
  | 0 => ("ProfileRights$Group", "number", "I", true)
  | _ => ("ProfileRights$Group", "upper", "LProfileRights$Group;", false)
def t_GR : Nat → FieldType := fun k => match k with
  | 0 => .int
  | _ => .object "ProfileRights$Group"
theorem n_GR : ∀ a, a < 2 → ∀ b, b < 2 → a ≠ b → (T_GR a).2.1 ≠ (T_GR b).2.1 := by decide +kernel
theorem o_GR : ∀ k, k < 2 → parseFieldDescriptor (T_GR k).2.2.1 = some (t_GR k) := by decide +kernel
theorem i_GR_0 : u_lay "ProfileRights$Group" T_GR 0 ∈ kw_L := kw_in 295 (by decide +kernel) (by decide +kernel)
theorem i_GR_1 : u_lay "ProfileRights$Group" T_GR 1 ∈ kw_L := kw_in 297 (by decide +kernel) (by decide +kernel)
theorem i_GR : ∀ w ∈ u_ws "ProfileRights$Group" T_GR 2, w ∈ kw_L := by
  intro w hw
  have h1 : w ∈ [u_lay "ProfileRights$Group" T_GR 0, u_lay "ProfileRights$Group" T_GR 1] := hw
  simp only [List.mem_cons, List.not_mem_nil, or_false] at h1
  rcases h1 with h1 | h1
  · rw [h1]; exact i_GR_0
  · rw [h1]; exact i_GR_1
def T_US : u_T := fun k => match k with
  | 0 => ("ProfileRights$User", "number", "I", true)
  | 1 => ("ProfileRights$User", "home", "LProfileRights$Group;", true)
  | 2 => ("ProfileRights$User", "place", "I", false)
  | 3 => ("ProfileRights$User", "tries", "I", false)
  | 4 => ("ProfileRights$User", "revoked", "Z", false)
  | _ => ("ProfileRights$User", "stoodFor", "J", false)
def t_US : Nat → FieldType := fun k => match k with
  | 0 => .int
  | 1 => .object "ProfileRights$Group"
  | 2 => .int
  | 3 => .int
  | 4 => .boolean
  | _ => .long
theorem n_US : ∀ a, a < 6 → ∀ b, b < 6 → a ≠ b → (T_US a).2.1 ≠ (T_US b).2.1 := by decide +kernel
theorem o_US : ∀ k, k < 6 → parseFieldDescriptor (T_US k).2.2.1 = some (t_US k) := by decide +kernel
theorem i_US_0 : u_lay "ProfileRights$User" T_US 0 ∈ kw_L := kw_in 393 (by decide +kernel) (by decide +kernel)
theorem i_US_1 : u_lay "ProfileRights$User" T_US 1 ∈ kw_L := kw_in 395 (by decide +kernel) (by decide +kernel)
theorem i_US_2 : u_lay "ProfileRights$User" T_US 2 ∈ kw_L := kw_in 397 (by decide +kernel) (by decide +kernel)
theorem i_US_3 : u_lay "ProfileRights$User" T_US 3 ∈ kw_L := kw_in 399 (by decide +kernel) (by decide +kernel)
theorem i_US_4 : u_lay "ProfileRights$User" T_US 4 ∈ kw_L := kw_in 401 (by decide +kernel) (by decide +kernel)
theorem i_US_5 : u_lay "ProfileRights$User" T_US 5 ∈ kw_L := kw_in 403 (by decide +kernel) (by decide +kernel)
theorem i_US : ∀ w ∈ u_ws "ProfileRights$User" T_US 6, w ∈ kw_L := by
  intro w hw
  have h1 : w ∈ [u_lay "ProfileRights$User" T_US 0, u_lay "ProfileRights$User" T_US 1, u_lay "ProfileRights$User" T_US 2, u_lay "ProfileRights$User" T_US 3, u_lay "ProfileRights$User" T_US 4, u_lay "ProfileRights$User" T_US 5] := hw
  simp only [List.mem_cons, List.not_mem_nil, or_false] at h1
  rcases h1 with h1 | h1 | h1 | h1 | h1 | h1
  · rw [h1]; exact i_US_0
  · rw [h1]; exact i_US_1
  · rw [h1]; exact i_US_2
  · rw [h1]; exact i_US_3
  · rw [h1]; exact i_US_4
  · rw [h1]; exact i_US_5
def T_NM : u_T := fun k => match k with
  | 0 => ("ProfileRights$Name", "characters", "[I", true)
  | 1 => ("ProfileRights$Name", "length", "I", false)
  | 2 => ("ProfileRights$Name", "special", "I", false)
  | _ => ("ProfileRights$Name", "ahead", "I", false)
def t_NM : Nat → FieldType := fun k => match k with
  | 0 => .array .int
  | 1 => .int
  | 2 => .int
  | _ => .int
theorem n_NM : ∀ a, a < 4 → ∀ b, b < 4 → a ≠ b → (T_NM a).2.1 ≠ (T_NM b).2.1 := by decide +kernel
theorem o_NM : ∀ k, k < 4 → parseFieldDescriptor (T_NM k).2.2.1 = some (t_NM k) := by decide +kernel
theorem i_NM_0 : u_lay "ProfileRights$Name" T_NM 0 ∈ kw_L := kw_in 68 (by decide +kernel) (by decide +kernel)
theorem i_NM_1 : u_lay "ProfileRights$Name" T_NM 1 ∈ kw_L := kw_in 70 (by decide +kernel) (by decide +kernel)
theorem i_NM_2 : u_lay "ProfileRights$Name" T_NM 2 ∈ kw_L := kw_in 72 (by decide +kernel) (by decide +kernel)
theorem i_NM_3 : u_lay "ProfileRights$Name" T_NM 3 ∈ kw_L := kw_in 74 (by decide +kernel) (by decide +kernel)
theorem i_NM : ∀ w ∈ u_ws "ProfileRights$Name" T_NM 4, w ∈ kw_L := by
  intro w hw
  have h1 : w ∈ [u_lay "ProfileRights$Name" T_NM 0, u_lay "ProfileRights$Name" T_NM 1, u_lay "ProfileRights$Name" T_NM 2, u_lay "ProfileRights$Name" T_NM 3] := hw
  simp only [List.mem_cons, List.not_mem_nil, or_false] at h1
  rcases h1 with h1 | h1 | h1 | h1
  · rw [h1]; exact i_NM_0
  · rw [h1]; exact i_NM_1
  · rw [h1]; exact i_NM_2
  · rw [h1]; exact i_NM_3
def T_EN : u_T := fun k => match k with
  | 0 => ("ProfileRights$Entry", "holder", "I", true)
  | 1 => ("ProfileRights$Entry", "level", "I", false)
  | 2 => ("ProfileRights$Entry", "place", "I", false)
  | _ => ("ProfileRights$Entry", "hours", "I", false)
def t_EN : Nat → FieldType := fun k => match k with
  | 0 => .int
  | 1 => .int
  | 2 => .int
  | _ => .int
theorem n_EN : ∀ a, a < 4 → ∀ b, b < 4 → a ≠ b → (T_EN a).2.1 ≠ (T_EN b).2.1 := by decide +kernel
theorem o_EN : ∀ k, k < 4 → parseFieldDescriptor (T_EN k).2.2.1 = some (t_EN k) := by decide +kernel
theorem i_EN_0 : u_lay "ProfileRights$Entry" T_EN 0 ∈ kw_L := kw_in 570 (by decide +kernel) (by decide +kernel)
theorem i_EN_1 : u_lay "ProfileRights$Entry" T_EN 1 ∈ kw_L := kw_in 572 (by decide +kernel) (by decide +kernel)
theorem i_EN_2 : u_lay "ProfileRights$Entry" T_EN 2 ∈ kw_L := kw_in 574 (by decide +kernel) (by decide +kernel)
theorem i_EN_3 : u_lay "ProfileRights$Entry" T_EN 3 ∈ kw_L := kw_in 576 (by decide +kernel) (by decide +kernel)
theorem i_EN : ∀ w ∈ u_ws "ProfileRights$Entry" T_EN 4, w ∈ kw_L := by
  intro w hw
  have h1 : w ∈ [u_lay "ProfileRights$Entry" T_EN 0, u_lay "ProfileRights$Entry" T_EN 1, u_lay "ProfileRights$Entry" T_EN 2, u_lay "ProfileRights$Entry" T_EN 3] := hw
  simp only [List.mem_cons, List.not_mem_nil, or_false] at h1
  rcases h1 with h1 | h1 | h1 | h1
  · rw [h1]; exact i_EN_0
  · rw [h1]; exact i_EN_1
  · rw [h1]; exact i_EN_2
  · rw [h1]; exact i_EN_3
def T_PF : u_T := fun k => match k with
  | 0 => ("ProfileRights$Profile", "number", "I", true)
  | 1 => ("ProfileRights$Profile", "cls", "I", true)
  | 2 => ("ProfileRights$Profile", "pattern", "LProfileRights$Name;", true)
  | 3 => ("ProfileRights$Profile", "entries", "Ljava/util/ArrayList;", true)
  | 4 => ("ProfileRights$Profile", "universalLevel", "I", false)
  | _ => ("ProfileRights$Profile", "marks", "I", false)
def t_PF : Nat → FieldType := fun k => match k with
  | 0 => .int
  | 1 => .int
  | 2 => .object "ProfileRights$Name"
  | 3 => .object "java/util/ArrayList"
  | 4 => .int
  | _ => .int
theorem n_PF : ∀ a, a < 6 → ∀ b, b < 6 → a ≠ b → (T_PF a).2.1 ≠ (T_PF b).2.1 := by decide +kernel
theorem o_PF : ∀ k, k < 6 → parseFieldDescriptor (T_PF k).2.2.1 = some (t_PF k) := by decide +kernel
theorem i_PF_0 : u_lay "ProfileRights$Profile" T_PF 0 ∈ kw_L := kw_in 477 (by decide +kernel) (by decide +kernel)
theorem i_PF_1 : u_lay "ProfileRights$Profile" T_PF 1 ∈ kw_L := kw_in 479 (by decide +kernel) (by decide +kernel)
theorem i_PF_2 : u_lay "ProfileRights$Profile" T_PF 2 ∈ kw_L := kw_in 481 (by decide +kernel) (by decide +kernel)
theorem i_PF_3 : u_lay "ProfileRights$Profile" T_PF 3 ∈ kw_L := kw_in 483 (by decide +kernel) (by decide +kernel)
theorem i_PF_4 : u_lay "ProfileRights$Profile" T_PF 4 ∈ kw_L := kw_in 485 (by decide +kernel) (by decide +kernel)
theorem i_PF_5 : u_lay "ProfileRights$Profile" T_PF 5 ∈ kw_L := kw_in 487 (by decide +kernel) (by decide +kernel)
theorem i_PF : ∀ w ∈ u_ws "ProfileRights$Profile" T_PF 6, w ∈ kw_L := by
  intro w hw
  have h1 : w ∈ [u_lay "ProfileRights$Profile" T_PF 0, u_lay "ProfileRights$Profile" T_PF 1, u_lay "ProfileRights$Profile" T_PF 2, u_lay "ProfileRights$Profile" T_PF 3, u_lay "ProfileRights$Profile" T_PF 4, u_lay "ProfileRights$Profile" T_PF 5] := hw
  simp only [List.mem_cons, List.not_mem_nil, or_false] at h1
  rcases h1 with h1 | h1 | h1 | h1 | h1 | h1
  · rw [h1]; exact i_PF_0
  · rw [h1]; exact i_PF_1
  · rw [h1]; exact i_PF_2
  · rw [h1]; exact i_PF_3
  · rw [h1]; exact i_PF_4
  · rw [h1]; exact i_PF_5
def T_TR : u_T := fun k => match k with
  | 0 => ("ProfileRights$Trail", "cells", "[I", true)
  | 1 => ("ProfileRights$Trail", "kept", "I", false)
  | _ => ("ProfileRights$Trail", "written", "I", false)
def t_TR : Nat → FieldType := fun k => match k with
  | 0 => .array .int
  | 1 => .int
  | _ => .int
theorem n_TR : ∀ a, a < 3 → ∀ b, b < 3 → a ≠ b → (T_TR a).2.1 ≠ (T_TR b).2.1 := by decide +kernel
theorem o_TR : ∀ k, k < 3 → parseFieldDescriptor (T_TR k).2.2.1 = some (t_TR k) := by decide +kernel
theorem i_TR_0 : u_lay "ProfileRights$Trail" T_TR 0 ∈ kw_L := kw_in 88 (by decide +kernel) (by decide +kernel)
theorem i_TR_1 : u_lay "ProfileRights$Trail" T_TR 1 ∈ kw_L := kw_in 90 (by decide +kernel) (by decide +kernel)
theorem i_TR_2 : u_lay "ProfileRights$Trail" T_TR 2 ∈ kw_L := kw_in 92 (by decide +kernel) (by decide +kernel)
theorem i_TR : ∀ w ∈ u_ws "ProfileRights$Trail" T_TR 3, w ∈ kw_L := by
  intro w hw
  have h1 : w ∈ [u_lay "ProfileRights$Trail" T_TR 0, u_lay "ProfileRights$Trail" T_TR 1, u_lay "ProfileRights$Trail" T_TR 2] := hw
  simp only [List.mem_cons, List.not_mem_nil, or_false] at h1
  rcases h1 with h1 | h1 | h1
  · rw [h1]; exact i_TR_0
  · rw [h1]; exact i_TR_1
  · rw [h1]; exact i_TR_2
def T_AL : u_T := fun k => match k with
  | 0 => ("java/util/AbstractList", "modCount", "I", false)
  | 1 => ("java/util/ArrayList", "elementData", "[Ljava/lang/Object;", false)
  | _ => ("java/util/ArrayList", "size", "I", false)
def t_AL : Nat → FieldType := fun k => match k with
  | 0 => .int
  | 1 => .array (.object "java/lang/Object")
  | _ => .int
theorem n_AL : ∀ a, a < 3 → ∀ b, b < 3 → a ≠ b → (T_AL a).2.1 ≠ (T_AL b).2.1 := by decide +kernel
theorem o_AL : ∀ k, k < 3 → parseFieldDescriptor (T_AL k).2.2.1 = some (t_AL k) := by decide +kernel
theorem i_AL_0 : u_lay "java/util/ArrayList" T_AL 0 ∈ kw_L := kw_in 54 (by decide +kernel) (by decide +kernel)
theorem i_AL_1 : u_lay "java/util/ArrayList" T_AL 1 ∈ kw_L := kw_in 50 (by decide +kernel) (by decide +kernel)
theorem i_AL_2 : u_lay "java/util/ArrayList" T_AL 2 ∈ kw_L := kw_in 52 (by decide +kernel) (by decide +kernel)
theorem i_AL : ∀ w ∈ u_ws "java/util/ArrayList" T_AL 3, w ∈ kw_L := by
  intro w hw
  have h1 : w ∈ [u_lay "java/util/ArrayList" T_AL 0, u_lay "java/util/ArrayList" T_AL 1, u_lay "java/util/ArrayList" T_AL 2] := hw
  simp only [List.mem_cons, List.not_mem_nil, or_false] at h1
  rcases h1 with h1 | h1 | h1
  · rw [h1]; exact i_AL_0
  · rw [h1]; exact i_AL_1
  · rw [h1]; exact i_AL_2
def T_MD : u_T := fun k => match k with
  | 0 => ("ProfileRightsModel", "thrown", "I", false)
  | 1 => ("ProfileRightsModel", "above", "[I", true)
  | 2 => ("ProfileRightsModel", "groupOf", "[I", true)
  | 3 => ("ProfileRightsModel", "terminals", "[I", true)
  | 4 => ("ProfileRightsModel", "tries", "[I", true)
  | 5 => ("ProfileRightsModel", "revoked", "[Z", true)
  | 6 => ("ProfileRightsModel", "acts", "[Z", true)
  | 7 => ("ProfileRightsModel", "groups", "I", false)
  | 8 => ("ProfileRightsModel", "users", "I", false)
  | 9 => ("ProfileRightsModel", "profiles", "I", false)
  | 10 => ("ProfileRightsModel", "modes", "[I", true)
  | 11 => ("ProfileRightsModel", "sorts", "[I", true)
  | 12 => ("ProfileRightsModel", "names", "[I", true)
  | 13 => ("ProfileRightsModel", "lengths", "[I", true)
  | 14 => ("ProfileRightsModel", "levels", "[I", true)
  | 15 => ("ProfileRightsModel", "marks", "[I", true)
  | 16 => ("ProfileRightsModel", "entries", "[I", true)
  | 17 => ("ProfileRightsModel", "whos", "[I", true)
  | 18 => ("ProfileRightsModel", "grants", "[I", true)
  | 19 => ("ProfileRightsModel", "places", "[I", true)
  | 20 => ("ProfileRightsModel", "hours", "[I", true)
  | 21 => ("ProfileRightsModel", "asked", "[I", true)
  | 22 => ("ProfileRightsModel", "askedLength", "I", false)
  | 23 => ("ProfileRightsModel", "latest", "I", false)
  | 24 => ("ProfileRightsModel", "audit", "[I", true)
  | 25 => ("ProfileRightsModel", "rows", "I", false)
  | _ => ("ProfileRightsModel", "fit", "[Z", true)
def t_MD : Nat → FieldType := fun k => match k with
  | 0 => .int
  | 1 => .array .int
  | 2 => .array .int
  | 3 => .array .int
  | 4 => .array .int
  | 5 => .array .boolean
  | 6 => .array .boolean
  | 7 => .int
  | 8 => .int
  | 9 => .int
  | 10 => .array .int
  | 11 => .array .int
  | 12 => .array .int
  | 13 => .array .int
  | 14 => .array .int
  | 15 => .array .int
  | 16 => .array .int
  | 17 => .array .int
  | 18 => .array .int
  | 19 => .array .int
  | 20 => .array .int
  | 21 => .array .int
  | 22 => .int
  | 23 => .int
  | 24 => .array .int
  | 25 => .int
  | _ => .array .boolean
theorem n_MD : ∀ a, a < 27 → ∀ b, b < 27 → a ≠ b → (T_MD a).2.1 ≠ (T_MD b).2.1 := by decide +kernel
theorem o_MD : ∀ k, k < 27 → parseFieldDescriptor (T_MD k).2.2.1 = some (t_MD k) := by decide +kernel
theorem i_MD_0 : u_lay "ProfileRightsModel" T_MD 0 ∈ kw_L := kw_in 708 (by decide +kernel) (by decide +kernel)
theorem i_MD_1 : u_lay "ProfileRightsModel" T_MD 1 ∈ kw_L := kw_in 710 (by decide +kernel) (by decide +kernel)
theorem i_MD_2 : u_lay "ProfileRightsModel" T_MD 2 ∈ kw_L := kw_in 712 (by decide +kernel) (by decide +kernel)
theorem i_MD_3 : u_lay "ProfileRightsModel" T_MD 3 ∈ kw_L := kw_in 714 (by decide +kernel) (by decide +kernel)
theorem i_MD_4 : u_lay "ProfileRightsModel" T_MD 4 ∈ kw_L := kw_in 716 (by decide +kernel) (by decide +kernel)
theorem i_MD_5 : u_lay "ProfileRightsModel" T_MD 5 ∈ kw_L := kw_in 718 (by decide +kernel) (by decide +kernel)
theorem i_MD_6 : u_lay "ProfileRightsModel" T_MD 6 ∈ kw_L := kw_in 720 (by decide +kernel) (by decide +kernel)
theorem i_MD_7 : u_lay "ProfileRightsModel" T_MD 7 ∈ kw_L := kw_in 722 (by decide +kernel) (by decide +kernel)
theorem i_MD_8 : u_lay "ProfileRightsModel" T_MD 8 ∈ kw_L := kw_in 724 (by decide +kernel) (by decide +kernel)
theorem i_MD_9 : u_lay "ProfileRightsModel" T_MD 9 ∈ kw_L := kw_in 726 (by decide +kernel) (by decide +kernel)
theorem i_MD_10 : u_lay "ProfileRightsModel" T_MD 10 ∈ kw_L := kw_in 728 (by decide +kernel) (by decide +kernel)
theorem i_MD_11 : u_lay "ProfileRightsModel" T_MD 11 ∈ kw_L := kw_in 730 (by decide +kernel) (by decide +kernel)
theorem i_MD_12 : u_lay "ProfileRightsModel" T_MD 12 ∈ kw_L := kw_in 732 (by decide +kernel) (by decide +kernel)
theorem i_MD_13 : u_lay "ProfileRightsModel" T_MD 13 ∈ kw_L := kw_in 734 (by decide +kernel) (by decide +kernel)
theorem i_MD_14 : u_lay "ProfileRightsModel" T_MD 14 ∈ kw_L := kw_in 736 (by decide +kernel) (by decide +kernel)
theorem i_MD_15 : u_lay "ProfileRightsModel" T_MD 15 ∈ kw_L := kw_in 738 (by decide +kernel) (by decide +kernel)
theorem i_MD_16 : u_lay "ProfileRightsModel" T_MD 16 ∈ kw_L := kw_in 740 (by decide +kernel) (by decide +kernel)
theorem i_MD_17 : u_lay "ProfileRightsModel" T_MD 17 ∈ kw_L := kw_in 742 (by decide +kernel) (by decide +kernel)
theorem i_MD_18 : u_lay "ProfileRightsModel" T_MD 18 ∈ kw_L := kw_in 744 (by decide +kernel) (by decide +kernel)
theorem i_MD_19 : u_lay "ProfileRightsModel" T_MD 19 ∈ kw_L := kw_in 746 (by decide +kernel) (by decide +kernel)
theorem i_MD_20 : u_lay "ProfileRightsModel" T_MD 20 ∈ kw_L := kw_in 748 (by decide +kernel) (by decide +kernel)
theorem i_MD_21 : u_lay "ProfileRightsModel" T_MD 21 ∈ kw_L := kw_in 750 (by decide +kernel) (by decide +kernel)
theorem i_MD_22 : u_lay "ProfileRightsModel" T_MD 22 ∈ kw_L := kw_in 752 (by decide +kernel) (by decide +kernel)
theorem i_MD_23 : u_lay "ProfileRightsModel" T_MD 23 ∈ kw_L := kw_in 754 (by decide +kernel) (by decide +kernel)
theorem i_MD_24 : u_lay "ProfileRightsModel" T_MD 24 ∈ kw_L := kw_in 756 (by decide +kernel) (by decide +kernel)
theorem i_MD_25 : u_lay "ProfileRightsModel" T_MD 25 ∈ kw_L := kw_in 758 (by decide +kernel) (by decide +kernel)
theorem i_MD_26 : u_lay "ProfileRightsModel" T_MD 26 ∈ kw_L := kw_in 760 (by decide +kernel) (by decide +kernel)
theorem i_MD : ∀ w ∈ u_ws "ProfileRightsModel" T_MD 27, w ∈ kw_L := by
  intro w hw
  have h1 : w ∈ [u_lay "ProfileRightsModel" T_MD 0, u_lay "ProfileRightsModel" T_MD 1, u_lay "ProfileRightsModel" T_MD 2, u_lay "ProfileRightsModel" T_MD 3, u_lay "ProfileRightsModel" T_MD 4, u_lay "ProfileRightsModel" T_MD 5, u_lay "ProfileRightsModel" T_MD 6, u_lay "ProfileRightsModel" T_MD 7, u_lay "ProfileRightsModel" T_MD 8, u_lay "ProfileRightsModel" T_MD 9, u_lay "ProfileRightsModel" T_MD 10, u_lay "ProfileRightsModel" T_MD 11, u_lay "ProfileRightsModel" T_MD 12, u_lay "ProfileRightsModel" T_MD 13, u_lay "ProfileRightsModel" T_MD 14, u_lay "ProfileRightsModel" T_MD 15, u_lay "ProfileRightsModel" T_MD 16, u_lay "ProfileRightsModel" T_MD 17, u_lay "ProfileRightsModel" T_MD 18, u_lay "ProfileRightsModel" T_MD 19, u_lay "ProfileRightsModel" T_MD 20, u_lay "ProfileRightsModel" T_MD 21, u_lay "ProfileRightsModel" T_MD 22, u_lay "ProfileRightsModel" T_MD 23, u_lay "ProfileRightsModel" T_MD 24, u_lay "ProfileRightsModel" T_MD 25, u_lay "ProfileRightsModel" T_MD 26] := hw
  simp only [List.mem_cons, List.not_mem_nil, or_false] at h1
  rcases h1 with h1 | h1 | h1 | h1 | h1 | h1 | h1 | h1 | h1 | h1 | h1 | h1 | h1 | h1 | h1 | h1 | h1 | h1 | h1 | h1 | h1 | h1 | h1 | h1 | h1 | h1 | h1
  · rw [h1]; exact i_MD_0
  · rw [h1]; exact i_MD_1
  · rw [h1]; exact i_MD_2
  · rw [h1]; exact i_MD_3
  · rw [h1]; exact i_MD_4
  · rw [h1]; exact i_MD_5
  · rw [h1]; exact i_MD_6
  · rw [h1]; exact i_MD_7
  · rw [h1]; exact i_MD_8
  · rw [h1]; exact i_MD_9
  · rw [h1]; exact i_MD_10
  · rw [h1]; exact i_MD_11
  · rw [h1]; exact i_MD_12
  · rw [h1]; exact i_MD_13
  · rw [h1]; exact i_MD_14
  · rw [h1]; exact i_MD_15
  · rw [h1]; exact i_MD_16
  · rw [h1]; exact i_MD_17
  · rw [h1]; exact i_MD_18
  · rw [h1]; exact i_MD_19
  · rw [h1]; exact i_MD_20
  · rw [h1]; exact i_MD_21
  · rw [h1]; exact i_MD_22
  · rw [h1]; exact i_MD_23
  · rw [h1]; exact i_MD_24
  · rw [h1]; exact i_MD_25
  · rw [h1]; exact i_MD_26
abbrev vwCl : List vw_C := [("ProfileRights", T_PR, 7), ("ProfileRights$Group", T_GR, 2), ("ProfileRights$User", T_US, 6), ("ProfileRights$Name", T_NM, 4), ("ProfileRights$Entry", T_EN, 4), ("ProfileRights$Profile", T_PF, 6), ("ProfileRights$Trail", T_TR, 3), ("java/util/ArrayList", T_AL, 3), ("ProfileRightsModel", T_MD, 27)]
/-- the array classes: their numbers stand behind those of the classes -/
def ty_L (D : va_G) : List (ClassId × FieldType) := [(D.1 100, .int), (D.1 101, .long), (D.1 102, .object "java/lang/Object"), (D.1 103, .boolean)]
def y_PR_init : MethodName := ⟨"ProfileRights", "<init>", "()V"⟩
theorem kc_PR_init : Cond.code y_PR_init prog_1_method_1_code 1 (Option.none : Option Jvm.ClassFile.FieldType) ∈ kw_L := kw_in 27 (by decide +kernel) (by decide +kernel)
def y_OJ_init : MethodName := ⟨"java/lang/Object", "<init>", "()V"⟩
theorem kc_OJ_init : Cond.code y_OJ_init object_method_1_code 1 (Option.none : Option Jvm.ClassFile.FieldType) ∈ kw_L := kw_in 30 (by decide +kernel) (by decide +kernel)
def y_AL_init : MethodName := ⟨"java/util/ArrayList", "<init>", "()V"⟩
theorem kc_AL_init : Cond.code y_AL_init prog_23_method_2_code 1 (Option.none : Option Jvm.ClassFile.FieldType) ∈ kw_L := kw_in 35 (by decide +kernel) (by decide +kernel)
def y_BL_init : MethodName := ⟨"java/util/AbstractList", "<init>", "()V"⟩
theorem kc_BL_init : Cond.code y_BL_init prog_22_method_1_code 1 (Option.none : Option Jvm.ClassFile.FieldType) ∈ kw_L := kw_in 38 (by decide +kernel) (by decide +kernel)
def y_BC_init : MethodName := ⟨"java/util/AbstractCollection", "<init>", "()V"⟩
theorem kc_BC_init : Cond.code y_BC_init prog_21_method_1_code 1 (Option.none : Option Jvm.ClassFile.FieldType) ∈ kw_L := kw_in 41 (by decide +kernel) (by decide +kernel)
def y_NM_init : MethodName := ⟨"ProfileRights$Name", "<init>", "()V"⟩
theorem kc_NM_init : Cond.code y_NM_init prog_4_method_1_code 1 (Option.none : Option Jvm.ClassFile.FieldType) ∈ kw_L := kw_in 61 (by decide +kernel) (by decide +kernel)
def y_TR_init : MethodName := ⟨"ProfileRights$Trail", "<init>", "()V"⟩
theorem kc_TR_init : Cond.code y_TR_init prog_6_method_1_code 1 (Option.none : Option Jvm.ClassFile.FieldType) ∈ kw_L := kw_in 82 (by decide +kernel) (by decide +kernel)
def y_PR_ask : MethodName := ⟨"ProfileRights", "ask", "(I)I"⟩
theorem kc_PR_ask : Cond.code y_PR_ask prog_1_method_14_code 2 (Option.some Jvm.ClassFile.FieldType.int) ∈ kw_L := kw_in 120 (by decide +kernel) (by decide +kernel)
def y_PR_isCharacter : MethodName := ⟨"ProfileRights", "isCharacter", "(I)Z"⟩
theorem kc_PR_isCharacter : Cond.code y_PR_isCharacter prog_1_method_30_code 1 (Option.some Jvm.ClassFile.FieldType.boolean) ∈ kw_L := kw_in 123 (by decide +kernel) (by decide +kernel)
def y_NM_append : MethodName := ⟨"ProfileRights$Name", "append", "(I)V"⟩
theorem kc_NM_append : Cond.code y_NM_append prog_4_method_3_code 2 (Option.none : Option Jvm.ClassFile.FieldType) ∈ kw_L := kw_in 127 (by decide +kernel) (by decide +kernel)
def y_NM_isFull : MethodName := ⟨"ProfileRights$Name", "isFull", "()Z"⟩
theorem kc_NM_isFull : Cond.code y_NM_isFull prog_4_method_2_code 1 (Option.some Jvm.ClassFile.FieldType.boolean) ∈ kw_L := kw_in 131 (by decide +kernel) (by decide +kernel)
def y_NM_isExact : MethodName := ⟨"ProfileRights$Name", "isExact", "()Z"⟩
theorem kc_NM_isExact : Cond.code y_NM_isExact prog_4_method_5_code 1 (Option.some Jvm.ClassFile.FieldType.boolean) ∈ kw_L := kw_in 135 (by decide +kernel) (by decide +kernel)
def y_NM_clear : MethodName := ⟨"ProfileRights$Name", "clear", "()V"⟩
theorem kc_NM_clear : Cond.code y_NM_clear prog_4_method_4_code 1 (Option.none : Option Jvm.ClassFile.FieldType) ∈ kw_L := kw_in 139 (by decide +kernel) (by decide +kernel)
def y_PR_matched : MethodName := ⟨"ProfileRights", "matched", "()I"⟩
theorem kc_PR_matched : Cond.code y_PR_matched prog_1_method_16_code 1 (Option.some Jvm.ClassFile.FieldType.int) ∈ kw_L := kw_in 143 (by decide +kernel) (by decide +kernel)
def y_PR_audit : MethodName := ⟨"ProfileRights", "audit", "(II)I"⟩
theorem kc_PR_audit : Cond.code y_PR_audit prog_1_method_17_code 3 (Option.some Jvm.ClassFile.FieldType.int) ∈ kw_L := kw_in 147 (by decide +kernel) (by decide +kernel)
def y_TR_read : MethodName := ⟨"ProfileRights$Trail", "read", "(II)I"⟩
theorem kc_TR_read : Cond.code y_TR_read prog_6_method_3_code 3 (Option.some Jvm.ClassFile.FieldType.int) ∈ kw_L := kw_in 151 (by decide +kernel) (by decide +kernel)
def y_PR_count : MethodName := ⟨"ProfileRights", "count", "(I)I"⟩
theorem kc_PR_count : Cond.code y_PR_count prog_1_method_21_code 2 (Option.some Jvm.ClassFile.FieldType.int) ∈ kw_L := kw_in 155 (by decide +kernel) (by decide +kernel)
def y_AL_size : MethodName := ⟨"java/util/ArrayList", "size", "()I"⟩
theorem kc_AL_size : Cond.code y_AL_size prog_23_method_8_code 1 (Option.some Jvm.ClassFile.FieldType.int) ∈ kw_L := kw_in 159 (by decide +kernel) (by decide +kernel)
def y_PR_countRevoked : MethodName := ⟨"ProfileRights", "countRevoked", "()I"⟩
theorem kc_PR_countRevoked : Cond.code y_PR_countRevoked prog_1_method_34_code 3 (Option.some Jvm.ClassFile.FieldType.int) ∈ kw_L := kw_in 163 (by decide +kernel) (by decide +kernel)
def y_AL_get : MethodName := ⟨"java/util/ArrayList", "get", "(I)Ljava/lang/Object;"⟩
theorem kc_AL_get : Cond.code y_AL_get prog_23_method_20_code 2 (Option.some (Jvm.ClassFile.FieldType.object "java/lang/Object")) ∈ kw_L := kw_in 167 (by decide +kernel) (by decide +kernel)
def y_OB_checkIndex : MethodName := ⟨"java/util/Objects", "checkIndex", "(II)I"⟩
theorem kc_OB_checkIndex : Cond.code y_OB_checkIndex prog_27_method_17_code 2 (Option.some Jvm.ClassFile.FieldType.int) ∈ kw_L := kw_in 170 (by decide +kernel) (by decide +kernel)
def y_PC_checkIndex : MethodName := ⟨"jdk/internal/util/Preconditions", "checkIndex", "(IILjava/util/function/BiFunction;)I"⟩
theorem kc_PC_checkIndex : Cond.code y_PC_checkIndex prog_31_method_11_code 3 (Option.some Jvm.ClassFile.FieldType.int) ∈ kw_L := kw_in 173 (by decide +kernel) (by decide +kernel)
def y_AL_elementData : MethodName := ⟨"java/util/ArrayList", "elementData", "(I)Ljava/lang/Object;"⟩
theorem kc_AL_elementData : Cond.code y_AL_elementData prog_23_method_18_code 2 (Option.some (Jvm.ClassFile.FieldType.object "java/lang/Object")) ∈ kw_L := kw_in 177 (by decide +kernel) (by decide +kernel)
def y_PR_countEntries : MethodName := ⟨"ProfileRights", "countEntries", "()I"⟩
theorem kc_PR_countEntries : Cond.code y_PR_countEntries prog_1_method_35_code 3 (Option.some Jvm.ClassFile.FieldType.int) ∈ kw_L := kw_in 182 (by decide +kernel) (by decide +kernel)
def y_PR_group : MethodName := ⟨"ProfileRights", "group", "(I)I"⟩
theorem kc_PR_group : Cond.code y_PR_group prog_1_method_2_code 3 (Option.some Jvm.ClassFile.FieldType.int) ∈ kw_L := kw_in 192 (by decide +kernel) (by decide +kernel)
def y_PR_groupOrNone : MethodName := ⟨"ProfileRights", "groupOrNone", "(I)LProfileRights$Group;"⟩
theorem kc_PR_groupOrNone : Cond.code y_PR_groupOrNone prog_1_method_23_code 2 (Option.some (Jvm.ClassFile.FieldType.object "ProfileRights$Group")) ∈ kw_L := kw_in 196 (by decide +kernel) (by decide +kernel)
def y_PR_groupAt : MethodName := ⟨"ProfileRights", "groupAt", "(I)LProfileRights$Group;"⟩
theorem kc_PR_groupAt : Cond.code y_PR_groupAt prog_1_method_22_code 2 (Option.some (Jvm.ClassFile.FieldType.object "ProfileRights$Group")) ∈ kw_L := kw_in 200 (by decide +kernel) (by decide +kernel)
def y_TH_init_0 : MethodName := ⟨"java/lang/Throwable", "<init>", "()V"⟩
theorem kc_TH_init_0 : Cond.code y_TH_init_0 prog_20_method_1_code 1 (Option.none : Option Jvm.ClassFile.FieldType) ∈ kw_L := kw_in 225 (by decide +kernel) (by decide +kernel)
def y_TH_init_1 : MethodName := ⟨"java/lang/Throwable", "<init>", "(Ljava/lang/String;)V"⟩
theorem kc_TH_init_1 : Cond.code y_TH_init_1 prog_20_method_2_code 2 (Option.none : Option Jvm.ClassFile.FieldType) ∈ kw_L := kw_in 253 (by decide +kernel) (by decide +kernel)
def y_IA_init : MethodName := ⟨"java/lang/IllegalArgumentException", "<init>", "(Ljava/lang/String;)V"⟩
theorem kc_IA_init : Cond.code y_IA_init prog_13_method_2_code 2 (Option.none : Option Jvm.ClassFile.FieldType) ∈ kw_L := kw_in 244 (by decide +kernel) (by decide +kernel)
def y_RE_init : MethodName := ⟨"java/lang/RuntimeException", "<init>", "(Ljava/lang/String;)V"⟩
theorem kc_RE_init : Cond.code y_RE_init prog_17_method_2_code 2 (Option.none : Option Jvm.ClassFile.FieldType) ∈ kw_L := kw_in 247 (by decide +kernel) (by decide +kernel)
def y_EX_init : MethodName := ⟨"java/lang/Exception", "<init>", "(Ljava/lang/String;)V"⟩
theorem kc_EX_init : Cond.code y_EX_init prog_12_method_2_code 2 (Option.none : Option Jvm.ClassFile.FieldType) ∈ kw_L := kw_in 250 (by decide +kernel) (by decide +kernel)
def y_IS_init : MethodName := ⟨"java/lang/IllegalStateException", "<init>", "(Ljava/lang/String;)V"⟩
theorem kc_IS_init : Cond.code y_IS_init prog_14_method_2_code 2 (Option.none : Option Jvm.ClassFile.FieldType) ∈ kw_L := kw_in 281 (by decide +kernel) (by decide +kernel)
def y_GR_init : MethodName := ⟨"ProfileRights$Group", "<init>", "(ILProfileRights$Group;)V"⟩
theorem kc_GR_init : Cond.code y_GR_init prog_3_method_1_code 3 (Option.none : Option Jvm.ClassFile.FieldType) ∈ kw_L := kw_in 288 (by decide +kernel) (by decide +kernel)
def y_AL_add_0 : MethodName := ⟨"java/util/ArrayList", "add", "(Ljava/lang/Object;)Z"⟩
theorem kc_AL_add_0 : Cond.code y_AL_add_0 prog_23_method_25_code 2 (Option.some Jvm.ClassFile.FieldType.boolean) ∈ kw_L := kw_in 303 (by decide +kernel) (by decide +kernel)
def y_AL_add_1 : MethodName := ⟨"java/util/ArrayList", "add", "(Ljava/lang/Object;[Ljava/lang/Object;I)V"⟩
theorem kc_AL_add_1 : Cond.code y_AL_add_1 prog_23_method_24_code 4 (Option.none : Option Jvm.ClassFile.FieldType) ∈ kw_L := kw_in 307 (by decide +kernel) (by decide +kernel)
def y_AL_grow_0 : MethodName := ⟨"java/util/ArrayList", "grow", "()[Ljava/lang/Object;"⟩
theorem kc_AL_grow_0 : Cond.code y_AL_grow_0 prog_23_method_7_code 1 (Option.some (Jvm.ClassFile.FieldType.array (Jvm.ClassFile.FieldType.object "java/lang/Object"))) ∈ kw_L := kw_in 311 (by decide +kernel) (by decide +kernel)
def y_AL_grow_1 : MethodName := ⟨"java/util/ArrayList", "grow", "(I)[Ljava/lang/Object;"⟩
theorem kc_AL_grow_1 : Cond.code y_AL_grow_1 prog_23_method_6_code 4 (Option.some (Jvm.ClassFile.FieldType.array (Jvm.ClassFile.FieldType.object "java/lang/Object"))) ∈ kw_L := kw_in 315 (by decide +kernel) (by decide +kernel)
def y_AS_newLength : MethodName := ⟨"jdk/internal/util/ArraysSupport", "newLength", "(III)I"⟩
theorem kc_AS_newLength : Cond.code y_AS_newLength prog_30_method_27_code 4 (Option.some Jvm.ClassFile.FieldType.int) ∈ kw_L := kw_in 318 (by decide +kernel) (by decide +kernel)
def y_MA_max : MethodName := ⟨"java/lang/Math", "max", "(II)I"⟩
theorem kc_MA_max : Cond.code y_MA_max prog_16_method_65_code 2 (Option.some Jvm.ClassFile.FieldType.int) ∈ kw_L := kw_in 321 (by decide +kernel) (by decide +kernel)
def y_AS_hugeLength : MethodName := ⟨"jdk/internal/util/ArraysSupport", "hugeLength", "(II)I"⟩
theorem kc_AS_hugeLength : Cond.code y_AS_hugeLength prog_30_method_28_code 3 (Option.some Jvm.ClassFile.FieldType.int) ∈ kw_L := kw_in 325 (by decide +kernel) (by decide +kernel)
def y_AR_copyOf_0 : MethodName := ⟨"java/util/Arrays", "copyOf", "([Ljava/lang/Object;I)[Ljava/lang/Object;"⟩
theorem kc_AR_copyOf_0 : Cond.code y_AR_copyOf_0 prog_24_method_119_code 2 (Option.some (Jvm.ClassFile.FieldType.array (Jvm.ClassFile.FieldType.object "java/lang/Object"))) ∈ kw_L := kw_in 328 (by decide +kernel) (by decide +kernel)
def y_AR_copyOf_1 : MethodName := ⟨"java/util/Arrays", "copyOf", "([Ljava/lang/Object;ILjava/lang/Class;)[Ljava/lang/Object;"⟩
theorem kc_AR_copyOf_1 : Cond.code y_AR_copyOf_1 prog_24_method_120_code 4 (Option.some (Jvm.ClassFile.FieldType.array (Jvm.ClassFile.FieldType.object "java/lang/Object"))) ∈ kw_L := kw_in 346 (by decide +kernel) (by decide +kernel)
def y_MA_min : MethodName := ⟨"java/lang/Math", "min", "(II)I"⟩
theorem kc_MA_min : Cond.code y_MA_min prog_16_method_69_code 2 (Option.some Jvm.ClassFile.FieldType.int) ∈ kw_L := kw_in 352 (by decide +kernel) (by decide +kernel)
def y_PR_move : MethodName := ⟨"ProfileRights", "move", "(II)I"⟩
theorem kc_PR_move : Cond.code y_PR_move prog_1_method_3_code 5 (Option.some Jvm.ClassFile.FieldType.int) ∈ kw_L := kw_in 364 (by decide +kernel) (by decide +kernel)
def y_PR_isWithin : MethodName := ⟨"ProfileRights", "isWithin", "(LProfileRights$Group;LProfileRights$Group;)Z"⟩
theorem kc_PR_isWithin : Cond.code y_PR_isWithin prog_1_method_31_code 3 (Option.some Jvm.ClassFile.FieldType.boolean) ∈ kw_L := kw_in 367 (by decide +kernel) (by decide +kernel)
def y_PR_user : MethodName := ⟨"ProfileRights", "user", "(I)I"⟩
theorem kc_PR_user : Cond.code y_PR_user prog_1_method_4_code 3 (Option.some Jvm.ClassFile.FieldType.int) ∈ kw_L := kw_in 374 (by decide +kernel) (by decide +kernel)
def y_US_init : MethodName := ⟨"ProfileRights$User", "<init>", "(ILProfileRights$Group;)V"⟩
theorem kc_US_init : Cond.code y_US_init prog_7_method_1_code 3 (Option.none : Option Jvm.ClassFile.FieldType) ∈ kw_L := kw_in 379 (by decide +kernel) (by decide +kernel)
def y_PR_terminal : MethodName := ⟨"ProfileRights", "terminal", "(II)I"⟩
theorem kc_PR_terminal : Cond.code y_PR_terminal prog_1_method_5_code 5 (Option.some Jvm.ClassFile.FieldType.int) ∈ kw_L := kw_in 412 (by decide +kernel) (by decide +kernel)
def y_PR_userAt : MethodName := ⟨"ProfileRights", "userAt", "(I)LProfileRights$User;"⟩
theorem kc_PR_userAt : Cond.code y_PR_userAt prog_1_method_24_code 2 (Option.some (Jvm.ClassFile.FieldType.object "ProfileRights$User")) ∈ kw_L := kw_in 416 (by decide +kernel) (by decide +kernel)
def y_PR_testTerminal : MethodName := ⟨"ProfileRights", "testTerminal", "(I)V"⟩
theorem kc_PR_testTerminal : Cond.code y_PR_testTerminal prog_1_method_28_code 1 (Option.none : Option Jvm.ClassFile.FieldType) ∈ kw_L := kw_in 420 (by decide +kernel) (by decide +kernel)
def y_PR_revoke : MethodName := ⟨"ProfileRights", "revoke", "(IZ)I"⟩
theorem kc_PR_revoke : Cond.code y_PR_revoke prog_1_method_6_code 4 (Option.some Jvm.ClassFile.FieldType.int) ∈ kw_L := kw_in 428 (by decide +kernel) (by decide +kernel)
def y_PR_pass : MethodName := ⟨"ProfileRights", "pass", "(IZ)I"⟩
theorem kc_PR_pass : Cond.code y_PR_pass prog_1_method_7_code 4 (Option.some Jvm.ClassFile.FieldType.int) ∈ kw_L := kw_in 435 (by decide +kernel) (by decide +kernel)
def y_PR_mode : MethodName := ⟨"ProfileRights", "mode", "(II)I"⟩
theorem kc_PR_mode : Cond.code y_PR_mode prog_1_method_8_code 4 (Option.some Jvm.ClassFile.FieldType.int) ∈ kw_L := kw_in 442 (by decide +kernel) (by decide +kernel)
def y_PR_testClass : MethodName := ⟨"ProfileRights", "testClass", "(I)V"⟩
theorem kc_PR_testClass : Cond.code y_PR_testClass prog_1_method_27_code 1 (Option.none : Option Jvm.ClassFile.FieldType) ∈ kw_L := kw_in 445 (by decide +kernel) (by decide +kernel)
def y_PR_profile : MethodName := ⟨"ProfileRights", "profile", "(II)I"⟩
theorem kc_PR_profile : Cond.code y_PR_profile prog_1_method_9_code 3 (Option.some Jvm.ClassFile.FieldType.int) ∈ kw_L := kw_in 454 (by decide +kernel) (by decide +kernel)
def y_PF_init : MethodName := ⟨"ProfileRights$Profile", "<init>", "(II)V"⟩
theorem kc_PF_init : Cond.code y_PF_init prog_5_method_1_code 3 (Option.none : Option Jvm.ClassFile.FieldType) ∈ kw_L := kw_in 459 (by decide +kernel) (by decide +kernel)
def y_PR_name : MethodName := ⟨"ProfileRights", "name", "(II)I"⟩
theorem kc_PR_name : Cond.code y_PR_name prog_1_method_10_code 4 (Option.some Jvm.ClassFile.FieldType.int) ∈ kw_L := kw_in 496 (by decide +kernel) (by decide +kernel)
def y_PR_profileAt : MethodName := ⟨"ProfileRights", "profileAt", "(I)LProfileRights$Profile;"⟩
theorem kc_PR_profileAt : Cond.code y_PR_profileAt prog_1_method_25_code 2 (Option.some (Jvm.ClassFile.FieldType.object "ProfileRights$Profile")) ∈ kw_L := kw_in 500 (by decide +kernel) (by decide +kernel)
def y_PR_universal : MethodName := ⟨"ProfileRights", "universal", "(III)I"⟩
theorem kc_PR_universal : Cond.code y_PR_universal prog_1_method_11_code 6 (Option.some Jvm.ClassFile.FieldType.int) ∈ kw_L := kw_in 511 (by decide +kernel) (by decide +kernel)
def y_PR_testLevel : MethodName := ⟨"ProfileRights", "testLevel", "(II)V"⟩
theorem kc_PR_testLevel : Cond.code y_PR_testLevel prog_1_method_29_code 2 (Option.none : Option Jvm.ClassFile.FieldType) ∈ kw_L := kw_in 514 (by decide +kernel) (by decide +kernel)
def y_PR_permit : MethodName := ⟨"ProfileRights", "permit", "(III)I"⟩
theorem kc_PR_permit : Cond.code y_PR_permit prog_1_method_12_code 7 (Option.some Jvm.ClassFile.FieldType.int) ∈ kw_L := kw_in 523 (by decide +kernel) (by decide +kernel)
def y_PR_testHolder : MethodName := ⟨"ProfileRights", "testHolder", "(I)V"⟩
theorem kc_PR_testHolder : Cond.code y_PR_testHolder prog_1_method_26_code 2 (Option.none : Option Jvm.ClassFile.FieldType) ∈ kw_L := kw_in 527 (by decide +kernel) (by decide +kernel)
def y_PF_entryOf : MethodName := ⟨"ProfileRights$Profile", "entryOf", "(I)LProfileRights$Entry;"⟩
theorem kc_PF_entryOf : Cond.code y_PF_entryOf prog_5_method_5_code 3 (Option.some (Jvm.ClassFile.FieldType.object "ProfileRights$Entry")) ∈ kw_L := kw_in 531 (by decide +kernel) (by decide +kernel)
def y_PF_dropEntry : MethodName := ⟨"ProfileRights$Profile", "dropEntry", "(I)V"⟩
theorem kc_PF_dropEntry : Cond.code y_PF_dropEntry prog_5_method_6_code 3 (Option.none : Option Jvm.ClassFile.FieldType) ∈ kw_L := kw_in 538 (by decide +kernel) (by decide +kernel)
def y_AL_remove : MethodName := ⟨"java/util/ArrayList", "remove", "(I)Ljava/lang/Object;"⟩
theorem kc_AL_remove : Cond.code y_AL_remove prog_23_method_29_code 4 (Option.some (Jvm.ClassFile.FieldType.object "java/lang/Object")) ∈ kw_L := kw_in 542 (by decide +kernel) (by decide +kernel)
def y_AL_fastRemove : MethodName := ⟨"java/util/ArrayList", "fastRemove", "([Ljava/lang/Object;I)V"⟩
theorem kc_AL_fastRemove : Cond.code y_AL_fastRemove prog_23_method_39_code 4 (Option.none : Option Jvm.ClassFile.FieldType) ∈ kw_L := kw_in 546 (by decide +kernel) (by decide +kernel)
def y_PF_isFull : MethodName := ⟨"ProfileRights$Profile", "isFull", "()Z"⟩
theorem kc_PF_isFull : Cond.code y_PF_isFull prog_5_method_4_code 1 (Option.some Jvm.ClassFile.FieldType.boolean) ∈ kw_L := kw_in 551 (by decide +kernel) (by decide +kernel)
def y_EN_init : MethodName := ⟨"ProfileRights$Entry", "<init>", "(II)V"⟩
theorem kc_EN_init : Cond.code y_EN_init prog_2_method_1_code 3 (Option.none : Option Jvm.ClassFile.FieldType) ∈ kw_L := kw_in 557 (by decide +kernel) (by decide +kernel)
def y_PR_condition : MethodName := ⟨"ProfileRights", "condition", "(IIII)I"⟩
theorem kc_PR_condition : Cond.code y_PR_condition prog_1_method_13_code 7 (Option.some Jvm.ClassFile.FieldType.int) ∈ kw_L := kw_in 585 (by decide +kernel) (by decide +kernel)
def y_PR_may : MethodName := ⟨"ProfileRights", "may", "(IIIJ)I"⟩
theorem kc_PR_may : Cond.code y_PR_may prog_1_method_15_code 10 (Option.some Jvm.ClassFile.FieldType.int) ∈ kw_L := kw_in 593 (by decide +kernel) (by decide +kernel)
def y_PR_decide : MethodName := ⟨"ProfileRights", "decide", "(LProfileRights$User;III)I"⟩
theorem kc_PR_decide : Cond.code y_PR_decide prog_1_method_32_code 7 (Option.some Jvm.ClassFile.FieldType.int) ∈ kw_L := kw_in 600 (by decide +kernel) (by decide +kernel)
def y_PR_mostSpecial : MethodName := ⟨"ProfileRights", "mostSpecial", "(IIZ)LProfileRights$Profile;"⟩
theorem kc_PR_mostSpecial : Cond.code y_PR_mostSpecial prog_1_method_33_code 7 (Option.some (Jvm.ClassFile.FieldType.object "ProfileRights$Profile")) ∈ kw_L := kw_in 604 (by decide +kernel) (by decide +kernel)
def y_PF_isOpenToAll : MethodName := ⟨"ProfileRights$Profile", "isOpenToAll", "(I)Z"⟩
theorem kc_PF_isOpenToAll : Cond.code y_PF_isOpenToAll prog_5_method_3_code 2 (Option.some Jvm.ClassFile.FieldType.boolean) ∈ kw_L := kw_in 608 (by decide +kernel) (by decide +kernel)
def y_PF_bears : MethodName := ⟨"ProfileRights$Profile", "bears", "(I)Z"⟩
theorem kc_PF_bears : Cond.code y_PF_bears prog_5_method_2_code 2 (Option.some Jvm.ClassFile.FieldType.boolean) ∈ kw_L := kw_in 612 (by decide +kernel) (by decide +kernel)
def y_NM_fits : MethodName := ⟨"ProfileRights$Name", "fits", "(LProfileRights$Name;)Z"⟩
theorem kc_NM_fits : Cond.code y_NM_fits prog_4_method_7_code 5 (Option.some Jvm.ClassFile.FieldType.boolean) ∈ kw_L := kw_in 616 (by decide +kernel) (by decide +kernel)
def y_NM_reachedBehind : MethodName := ⟨"ProfileRights$Name", "reachedBehind", "(IILProfileRights$Name;)I"⟩
theorem kc_NM_reachedBehind : Cond.code y_NM_reachedBehind prog_4_method_8_code 3 (Option.some Jvm.ClassFile.FieldType.int) ∈ kw_L := kw_in 619 (by decide +kernel) (by decide +kernel)
def y_NM_placesOf : MethodName := ⟨"ProfileRights$Name", "placesOf", "(I)I"⟩
theorem kc_NM_placesOf : Cond.code y_NM_placesOf prog_4_method_9_code 4 (Option.some Jvm.ClassFile.FieldType.int) ∈ kw_L := kw_in 623 (by decide +kernel) (by decide +kernel)
def y_NM_isMoreSpecialThan : MethodName := ⟨"ProfileRights$Name", "isMoreSpecialThan", "(LProfileRights$Name;)Z"⟩
theorem kc_NM_isMoreSpecialThan : Cond.code y_NM_isMoreSpecialThan prog_4_method_6_code 2 (Option.some Jvm.ClassFile.FieldType.boolean) ∈ kw_L := kw_in 627 (by decide +kernel) (by decide +kernel)
def y_PF_levelOf : MethodName := ⟨"ProfileRights$Profile", "levelOf", "(LProfileRights$User;I)I"⟩
theorem kc_PF_levelOf : Cond.code y_PF_levelOf prog_5_method_7_code 5 (Option.some Jvm.ClassFile.FieldType.int) ∈ kw_L := kw_in 631 (by decide +kernel) (by decide +kernel)
def y_PF_openEntryOf : MethodName := ⟨"ProfileRights$Profile", "openEntryOf", "(ILProfileRights$User;I)LProfileRights$Entry;"⟩
theorem kc_PF_openEntryOf : Cond.code y_PF_openEntryOf prog_5_method_8_code 5 (Option.some (Jvm.ClassFile.FieldType.object "ProfileRights$Entry")) ∈ kw_L := kw_in 635 (by decide +kernel) (by decide +kernel)
def y_EN_isOpen : MethodName := ⟨"ProfileRights$Entry", "isOpen", "(LProfileRights$User;I)Z"⟩
theorem kc_EN_isOpen : Cond.code y_EN_isOpen prog_2_method_2_code 3 (Option.some Jvm.ClassFile.FieldType.boolean) ∈ kw_L := kw_in 640 (by decide +kernel) (by decide +kernel)
def y_TR_write : MethodName := ⟨"ProfileRights$Trail", "write", "(IIIII)V"⟩
theorem kc_TR_write : Cond.code y_TR_write prog_6_method_2_code 7 (Option.none : Option Jvm.ClassFile.FieldType) ∈ kw_L := kw_in 645 (by decide +kernel) (by decide +kernel)
def y_PR_who : MethodName := ⟨"ProfileRights", "who", "(II)I"⟩
theorem kc_PR_who : Cond.code y_PR_who prog_1_method_18_code 4 (Option.some Jvm.ClassFile.FieldType.int) ∈ kw_L := kw_in 652 (by decide +kernel) (by decide +kernel)
def y_PR_acts : MethodName := ⟨"ProfileRights", "acts", "(II)Z"⟩
theorem kc_PR_acts : Cond.code y_PR_acts prog_1_method_19_code 5 (Option.some Jvm.ClassFile.FieldType.boolean) ∈ kw_L := kw_in 659 (by decide +kernel) (by decide +kernel)
def y_US_standsFor : MethodName := ⟨"ProfileRights$User", "standsFor", "(LProfileRights$User;)Z"⟩
theorem kc_US_standsFor : Cond.code y_US_standsFor prog_7_method_2_code 2 (Option.some Jvm.ClassFile.FieldType.boolean) ∈ kw_L := kw_in 663 (by decide +kernel) (by decide +kernel)
def y_PR_surrogate : MethodName := ⟨"ProfileRights", "surrogate", "(IIZ)I"⟩
theorem kc_PR_surrogate : Cond.code y_PR_surrogate prog_1_method_20_code 6 (Option.some Jvm.ClassFile.FieldType.int) ∈ kw_L := kw_in 670 (by decide +kernel) (by decide +kernel)
def y_US_toggleStandingFor : MethodName := ⟨"ProfileRights$User", "toggleStandingFor", "(LProfileRights$User;)V"⟩
theorem kc_US_toggleStandingFor : Cond.code y_US_toggleStandingFor prog_7_method_3_code 2 (Option.none : Option Jvm.ClassFile.FieldType) ∈ kw_L := kw_in 674 (by decide +kernel) (by decide +kernel)
def y_MD_init : MethodName := ⟨"ProfileRightsModel", "<init>", "()V"⟩
theorem kc_MD_init : Cond.code y_MD_init prog_9_method_1_code 1 (Option.none : Option Jvm.ClassFile.FieldType) ∈ kw_L := kw_in 679 (by decide +kernel) (by decide +kernel)
def y_MD_thrown : MethodName := ⟨"ProfileRightsModel", "thrown", "()I"⟩
theorem kc_MD_thrown : Cond.code y_MD_thrown prog_9_method_2_code 1 (Option.some Jvm.ClassFile.FieldType.int) ∈ kw_L := kw_in 767 (by decide +kernel) (by decide +kernel)
def y_MD_group : MethodName := ⟨"ProfileRightsModel", "group", "(I)I"⟩
theorem kc_MD_group : Cond.code y_MD_group prog_9_method_10_code 3 (Option.some Jvm.ClassFile.FieldType.int) ∈ kw_L := kw_in 771 (by decide +kernel) (by decide +kernel)
def y_MD_isGroup : MethodName := ⟨"ProfileRightsModel", "isGroup", "(I)Z"⟩
theorem kc_MD_isGroup : Cond.code y_MD_isGroup prog_9_method_4_code 2 (Option.some Jvm.ClassFile.FieldType.boolean) ∈ kw_L := kw_in 775 (by decide +kernel) (by decide +kernel)
def y_MD_fails : MethodName := ⟨"ProfileRightsModel", "fails", "(ZZ)Z"⟩
theorem kc_MD_fails : Cond.code y_MD_fails prog_9_method_3_code 3 (Option.some Jvm.ClassFile.FieldType.boolean) ∈ kw_L := kw_in 779 (by decide +kernel) (by decide +kernel)
def y_MD_move : MethodName := ⟨"ProfileRightsModel", "move", "(II)I"⟩
theorem kc_MD_move : Cond.code y_MD_move prog_9_method_11_code 4 (Option.some Jvm.ClassFile.FieldType.int) ∈ kw_L := kw_in 783 (by decide +kernel) (by decide +kernel)
def y_MD_user : MethodName := ⟨"ProfileRightsModel", "user", "(I)I"⟩
theorem kc_MD_user : Cond.code y_MD_user prog_9_method_12_code 3 (Option.some Jvm.ClassFile.FieldType.int) ∈ kw_L := kw_in 787 (by decide +kernel) (by decide +kernel)
def y_MD_terminal : MethodName := ⟨"ProfileRightsModel", "terminal", "(II)I"⟩
theorem kc_MD_terminal : Cond.code y_MD_terminal prog_9_method_13_code 4 (Option.some Jvm.ClassFile.FieldType.int) ∈ kw_L := kw_in 791 (by decide +kernel) (by decide +kernel)
def y_MD_isUser : MethodName := ⟨"ProfileRightsModel", "isUser", "(I)Z"⟩
theorem kc_MD_isUser : Cond.code y_MD_isUser prog_9_method_5_code 2 (Option.some Jvm.ClassFile.FieldType.boolean) ∈ kw_L := kw_in 795 (by decide +kernel) (by decide +kernel)
def y_MD_isTerminal : MethodName := ⟨"ProfileRightsModel", "isTerminal", "(I)Z"⟩
theorem kc_MD_isTerminal : Cond.code y_MD_isTerminal prog_9_method_9_code 1 (Option.some Jvm.ClassFile.FieldType.boolean) ∈ kw_L := kw_in 798 (by decide +kernel) (by decide +kernel)
def y_MD_revoke : MethodName := ⟨"ProfileRightsModel", "revoke", "(IZ)I"⟩
theorem kc_MD_revoke : Cond.code y_MD_revoke prog_9_method_14_code 3 (Option.some Jvm.ClassFile.FieldType.int) ∈ kw_L := kw_in 802 (by decide +kernel) (by decide +kernel)
def y_MD_pass : MethodName := ⟨"ProfileRightsModel", "pass", "(IZ)I"⟩
theorem kc_MD_pass : Cond.code y_MD_pass prog_9_method_15_code 3 (Option.some Jvm.ClassFile.FieldType.int) ∈ kw_L := kw_in 806 (by decide +kernel) (by decide +kernel)
def y_MD_acts : MethodName := ⟨"ProfileRightsModel", "acts", "(II)Z"⟩
theorem kc_MD_acts : Cond.code y_MD_acts prog_9_method_16_code 3 (Option.some Jvm.ClassFile.FieldType.boolean) ∈ kw_L := kw_in 810 (by decide +kernel) (by decide +kernel)
def y_MD_surrogate : MethodName := ⟨"ProfileRightsModel", "surrogate", "(IIZ)I"⟩
theorem kc_MD_surrogate : Cond.code y_MD_surrogate prog_9_method_17_code 4 (Option.some Jvm.ClassFile.FieldType.int) ∈ kw_L := kw_in 814 (by decide +kernel) (by decide +kernel)
def y_MD_mode : MethodName := ⟨"ProfileRightsModel", "mode", "(II)I"⟩
theorem kc_MD_mode : Cond.code y_MD_mode prog_9_method_18_code 4 (Option.some Jvm.ClassFile.FieldType.int) ∈ kw_L := kw_in 818 (by decide +kernel) (by decide +kernel)
def y_MD_isClass : MethodName := ⟨"ProfileRightsModel", "isClass", "(I)Z"⟩
theorem kc_MD_isClass : Cond.code y_MD_isClass prog_9_method_7_code 1 (Option.some Jvm.ClassFile.FieldType.boolean) ∈ kw_L := kw_in 821 (by decide +kernel) (by decide +kernel)
def y_MD_profile : MethodName := ⟨"ProfileRightsModel", "profile", "(II)I"⟩
theorem kc_MD_profile : Cond.code y_MD_profile prog_9_method_19_code 4 (Option.some Jvm.ClassFile.FieldType.int) ∈ kw_L := kw_in 825 (by decide +kernel) (by decide +kernel)
def y_MD_name : MethodName := ⟨"ProfileRightsModel", "name", "(II)I"⟩
theorem kc_MD_name : Cond.code y_MD_name prog_9_method_20_code 4 (Option.some Jvm.ClassFile.FieldType.int) ∈ kw_L := kw_in 829 (by decide +kernel) (by decide +kernel)
def y_MD_isProfile : MethodName := ⟨"ProfileRightsModel", "isProfile", "(I)Z"⟩
theorem kc_MD_isProfile : Cond.code y_MD_isProfile prog_9_method_6_code 2 (Option.some Jvm.ClassFile.FieldType.boolean) ∈ kw_L := kw_in 833 (by decide +kernel) (by decide +kernel)
def y_MD_isSign : MethodName := ⟨"ProfileRightsModel", "isSign", "(I)Z"⟩
theorem kc_MD_isSign : Cond.code y_MD_isSign prog_9_method_8_code 1 (Option.some Jvm.ClassFile.FieldType.boolean) ∈ kw_L := kw_in 836 (by decide +kernel) (by decide +kernel)
def y_MD_universal : MethodName := ⟨"ProfileRightsModel", "universal", "(III)I"⟩
theorem kc_MD_universal : Cond.code y_MD_universal prog_9_method_21_code 5 (Option.some Jvm.ClassFile.FieldType.int) ∈ kw_L := kw_in 840 (by decide +kernel) (by decide +kernel)
def y_MD_permit : MethodName := ⟨"ProfileRightsModel", "permit", "(III)I"⟩
theorem kc_MD_permit : Cond.code y_MD_permit prog_9_method_24_code 8 (Option.some Jvm.ClassFile.FieldType.int) ∈ kw_L := kw_in 844 (by decide +kernel) (by decide +kernel)
def y_MD_isWho : MethodName := ⟨"ProfileRightsModel", "isWho", "(I)Z"⟩
theorem kc_MD_isWho : Cond.code y_MD_isWho prog_9_method_22_code 2 (Option.some Jvm.ClassFile.FieldType.boolean) ∈ kw_L := kw_in 848 (by decide +kernel) (by decide +kernel)
def y_MD_entry : MethodName := ⟨"ProfileRightsModel", "entry", "(II)I"⟩
theorem kc_MD_entry : Cond.code y_MD_entry prog_9_method_23_code 4 (Option.some Jvm.ClassFile.FieldType.int) ∈ kw_L := kw_in 852 (by decide +kernel) (by decide +kernel)
def y_MD_condition : MethodName := ⟨"ProfileRightsModel", "condition", "(IIII)I"⟩
theorem kc_MD_condition : Cond.code y_MD_condition prog_9_method_25_code 6 (Option.some Jvm.ClassFile.FieldType.int) ∈ kw_L := kw_in 857 (by decide +kernel) (by decide +kernel)
def y_MD_who : MethodName := ⟨"ProfileRightsModel", "who", "(II)I"⟩
theorem kc_MD_who : Cond.code y_MD_who prog_9_method_26_code 3 (Option.some Jvm.ClassFile.FieldType.int) ∈ kw_L := kw_in 861 (by decide +kernel) (by decide +kernel)
def y_MD_ask : MethodName := ⟨"ProfileRightsModel", "ask", "(I)I"⟩
theorem kc_MD_ask : Cond.code y_MD_ask prog_9_method_27_code 2 (Option.some Jvm.ClassFile.FieldType.int) ∈ kw_L := kw_in 865 (by decide +kernel) (by decide +kernel)
def y_MD_may : MethodName := ⟨"ProfileRightsModel", "may", "(IIIJ)I"⟩
theorem kc_MD_may : Cond.code y_MD_may prog_9_method_36_code 8 (Option.some Jvm.ClassFile.FieldType.int) ∈ kw_L := kw_in 869 (by decide +kernel) (by decide +kernel)
def y_MD_answered : MethodName := ⟨"ProfileRightsModel", "answered", "(IIIIIZ)I"⟩
theorem kc_MD_answered : Cond.code y_MD_answered prog_9_method_35_code 7 (Option.some Jvm.ClassFile.FieldType.int) ∈ kw_L := kw_in 873 (by decide +kernel) (by decide +kernel)
def y_MD_found : MethodName := ⟨"ProfileRightsModel", "found", "(II)I"⟩
theorem kc_MD_found : Cond.code y_MD_found prog_9_method_32_code 6 (Option.some Jvm.ClassFile.FieldType.int) ∈ kw_L := kw_in 877 (by decide +kernel) (by decide +kernel)
def y_MD_fits : MethodName := ⟨"ProfileRightsModel", "fits", "(I)Z"⟩
theorem kc_MD_fits : Cond.code y_MD_fits prog_9_method_28_code 7 (Option.some Jvm.ClassFile.FieldType.boolean) ∈ kw_L := kw_in 881 (by decide +kernel) (by decide +kernel)
def y_MD_isMore : MethodName := ⟨"ProfileRightsModel", "isMore", "(II)Z"⟩
theorem kc_MD_isMore : Cond.code y_MD_isMore prog_9_method_31_code 5 (Option.some Jvm.ClassFile.FieldType.boolean) ∈ kw_L := kw_in 885 (by decide +kernel) (by decide +kernel)
def y_MD_special : MethodName := ⟨"ProfileRightsModel", "special", "(IZ)I"⟩
theorem kc_MD_special : Cond.code y_MD_special prog_9_method_30_code 7 (Option.some Jvm.ClassFile.FieldType.int) ∈ kw_L := kw_in 889 (by decide +kernel) (by decide +kernel)
def y_MD_isWild : MethodName := ⟨"ProfileRightsModel", "isWild", "(I)Z"⟩
theorem kc_MD_isWild : Cond.code y_MD_isWild prog_9_method_29_code 1 (Option.some Jvm.ClassFile.FieldType.boolean) ∈ kw_L := kw_in 892 (by decide +kernel) (by decide +kernel)
def y_MD_levelOf : MethodName := ⟨"ProfileRightsModel", "levelOf", "(IIJ)I"⟩
theorem kc_MD_levelOf : Cond.code y_MD_levelOf prog_9_method_34_code 7 (Option.some Jvm.ClassFile.FieldType.int) ∈ kw_L := kw_in 896 (by decide +kernel) (by decide +kernel)
def y_MD_isOpen : MethodName := ⟨"ProfileRightsModel", "isOpen", "(IIJ)Z"⟩
theorem kc_MD_isOpen : Cond.code y_MD_isOpen prog_9_method_33_code 6 (Option.some Jvm.ClassFile.FieldType.boolean) ∈ kw_L := kw_in 900 (by decide +kernel) (by decide +kernel)
def y_MD_matched : MethodName := ⟨"ProfileRightsModel", "matched", "()I"⟩
theorem kc_MD_matched : Cond.code y_MD_matched prog_9_method_37_code 1 (Option.some Jvm.ClassFile.FieldType.int) ∈ kw_L := kw_in 906 (by decide +kernel) (by decide +kernel)
def y_MD_audit : MethodName := ⟨"ProfileRightsModel", "audit", "(II)I"⟩
theorem kc_MD_audit : Cond.code y_MD_audit prog_9_method_38_code 3 (Option.some Jvm.ClassFile.FieldType.int) ∈ kw_L := kw_in 910 (by decide +kernel) (by decide +kernel)
def y_MD_count : MethodName := ⟨"ProfileRightsModel", "count", "(I)I"⟩
theorem kc_MD_count : Cond.code y_MD_count prog_9_method_39_code 4 (Option.some Jvm.ClassFile.FieldType.int) ∈ kw_L := kw_in 914 (by decide +kernel) (by decide +kernel)
def y_LW_group : MethodName := ⟨"ProfileRightsLaw", "group", "(LProfileRights;I[J)I"⟩
theorem kc_LW_group : Cond.codeWith y_LW_group method_3_code 4 (Option.some Jvm.ClassFile.FieldType.int) [((0 : Nat), (9 : Nat), (12 : Nat), (13 : Nat)), ((0 : Nat), (9 : Nat), (15 : Nat), (15 : Nat))] ∈ kw_L := kw_in 186 (by decide +kernel) (by decide +kernel)
def y_LW_move : MethodName := ⟨"ProfileRightsLaw", "move", "(LProfileRights;II[J)I"⟩
theorem kc_LW_move : Cond.codeWith y_LW_move method_4_code 5 (Option.some Jvm.ClassFile.FieldType.int) [((0 : Nat), (10 : Nat), (13 : Nat), (13 : Nat))] ∈ kw_L := kw_in 360 (by decide +kernel) (by decide +kernel)
def y_LW_user : MethodName := ⟨"ProfileRightsLaw", "user", "(LProfileRights;I[J)I"⟩
theorem kc_LW_user : Cond.codeWith y_LW_user method_5_code 4 (Option.some Jvm.ClassFile.FieldType.int) [((0 : Nat), (9 : Nat), (12 : Nat), (13 : Nat)), ((0 : Nat), (9 : Nat), (15 : Nat), (15 : Nat))] ∈ kw_L := kw_in 370 (by decide +kernel) (by decide +kernel)
def y_LW_terminal : MethodName := ⟨"ProfileRightsLaw", "terminal", "(LProfileRights;II[J)I"⟩
theorem kc_LW_terminal : Cond.codeWith y_LW_terminal method_6_code 5 (Option.some Jvm.ClassFile.FieldType.int) [((0 : Nat), (10 : Nat), (13 : Nat), (13 : Nat))] ∈ kw_L := kw_in 408 (by decide +kernel) (by decide +kernel)
def y_LW_revoke : MethodName := ⟨"ProfileRightsLaw", "revoke", "(LProfileRights;IZ[J)I"⟩
theorem kc_LW_revoke : Cond.codeWith y_LW_revoke method_7_code 5 (Option.some Jvm.ClassFile.FieldType.int) [((0 : Nat), (10 : Nat), (13 : Nat), (13 : Nat))] ∈ kw_L := kw_in 424 (by decide +kernel) (by decide +kernel)
def y_LW_pass : MethodName := ⟨"ProfileRightsLaw", "pass", "(LProfileRights;IZ[J)I"⟩
theorem kc_LW_pass : Cond.codeWith y_LW_pass method_8_code 5 (Option.some Jvm.ClassFile.FieldType.int) [((0 : Nat), (10 : Nat), (13 : Nat), (13 : Nat))] ∈ kw_L := kw_in 431 (by decide +kernel) (by decide +kernel)
def y_LW_mode : MethodName := ⟨"ProfileRightsLaw", "mode", "(LProfileRights;II[J)I"⟩
theorem kc_LW_mode : Cond.codeWith y_LW_mode method_9_code 5 (Option.some Jvm.ClassFile.FieldType.int) [((0 : Nat), (10 : Nat), (13 : Nat), (13 : Nat))] ∈ kw_L := kw_in 438 (by decide +kernel) (by decide +kernel)
def y_LW_profile : MethodName := ⟨"ProfileRightsLaw", "profile", "(LProfileRights;II[J)I"⟩
theorem kc_LW_profile : Cond.codeWith y_LW_profile method_10_code 5 (Option.some Jvm.ClassFile.FieldType.int) [((0 : Nat), (10 : Nat), (13 : Nat), (13 : Nat)), ((0 : Nat), (10 : Nat), (17 : Nat), (15 : Nat))] ∈ kw_L := kw_in 450 (by decide +kernel) (by decide +kernel)
def y_LW_name : MethodName := ⟨"ProfileRightsLaw", "name", "(LProfileRights;II[J)I"⟩
theorem kc_LW_name : Cond.codeWith y_LW_name method_11_code 5 (Option.some Jvm.ClassFile.FieldType.int) [((0 : Nat), (10 : Nat), (13 : Nat), (13 : Nat)), ((0 : Nat), (10 : Nat), (17 : Nat), (15 : Nat))] ∈ kw_L := kw_in 492 (by decide +kernel) (by decide +kernel)
def y_LW_universal : MethodName := ⟨"ProfileRightsLaw", "universal", "(LProfileRights;III[J)I"⟩
theorem kc_LW_universal : Cond.codeWith y_LW_universal method_12_code 6 (Option.some Jvm.ClassFile.FieldType.int) [((0 : Nat), (12 : Nat), (15 : Nat), (13 : Nat))] ∈ kw_L := kw_in 507 (by decide +kernel) (by decide +kernel)
def y_LW_permit : MethodName := ⟨"ProfileRightsLaw", "permit", "(LProfileRights;III[J)I"⟩
theorem kc_LW_permit : Cond.codeWith y_LW_permit method_13_code 6 (Option.some Jvm.ClassFile.FieldType.int) [((0 : Nat), (12 : Nat), (15 : Nat), (13 : Nat)), ((0 : Nat), (12 : Nat), (19 : Nat), (15 : Nat))] ∈ kw_L := kw_in 519 (by decide +kernel) (by decide +kernel)
def y_LW_condition : MethodName := ⟨"ProfileRightsLaw", "condition", "(LProfileRights;IIII[J)I"⟩
theorem kc_LW_condition : Cond.codeWith y_LW_condition method_14_code 7 (Option.some Jvm.ClassFile.FieldType.int) [((0 : Nat), (14 : Nat), (17 : Nat), (13 : Nat))] ∈ kw_L := kw_in 581 (by decide +kernel) (by decide +kernel)
def y_LW_may : MethodName := ⟨"ProfileRightsLaw", "may", "(LProfileRights;IIIJ[J)I"⟩
theorem kc_LW_may : Cond.codeWith y_LW_may method_15_code 8 (Option.some Jvm.ClassFile.FieldType.int) [((0 : Nat), (14 : Nat), (17 : Nat), (13 : Nat))] ∈ kw_L := kw_in 589 (by decide +kernel) (by decide +kernel)
def y_LW_who : MethodName := ⟨"ProfileRightsLaw", "who", "(LProfileRights;II[J)I"⟩
theorem kc_LW_who : Cond.codeWith y_LW_who method_16_code 5 (Option.some Jvm.ClassFile.FieldType.int) [((0 : Nat), (10 : Nat), (13 : Nat), (13 : Nat))] ∈ kw_L := kw_in 648 (by decide +kernel) (by decide +kernel)
def y_LW_acts : MethodName := ⟨"ProfileRightsLaw", "acts", "(LProfileRights;II[J)I"⟩
theorem kc_LW_acts : Cond.codeWith y_LW_acts method_17_code 5 (Option.some Jvm.ClassFile.FieldType.int) [((0 : Nat), (17 : Nat), (20 : Nat), (13 : Nat))] ∈ kw_L := kw_in 655 (by decide +kernel) (by decide +kernel)
def y_LW_surrogate : MethodName := ⟨"ProfileRightsLaw", "surrogate", "(LProfileRights;IIZ[J)I"⟩
theorem kc_LW_surrogate : Cond.codeWith y_LW_surrogate method_18_code 6 (Option.some Jvm.ClassFile.FieldType.int) [((0 : Nat), (12 : Nat), (15 : Nat), (13 : Nat))] ∈ kw_L := kw_in 666 (by decide +kernel) (by decide +kernel)
theorem ki_LW : Cond.initialized "ProfileRightsLaw" ∈ kw_L := kw_in 0 (by decide +kernel) (by decide +kernel)
theorem ki_PR : Cond.initialized "ProfileRights" ∈ kw_L := kw_in 1 (by decide +kernel) (by decide +kernel)
theorem ki_BC : Cond.initialized "java/util/AbstractCollection" ∈ kw_L := kw_in 2 (by decide +kernel) (by decide +kernel)
theorem ki_BL : Cond.initialized "java/util/AbstractList" ∈ kw_L := kw_in 3 (by decide +kernel) (by decide +kernel)
theorem ki_AL : Cond.initialized "java/util/ArrayList" ∈ kw_L := kw_in 4 (by decide +kernel) (by decide +kernel)
theorem ki_NM : Cond.initialized "ProfileRights$Name" ∈ kw_L := kw_in 5 (by decide +kernel) (by decide +kernel)
theorem ki_TR : Cond.initialized "ProfileRights$Trail" ∈ kw_L := kw_in 6 (by decide +kernel) (by decide +kernel)
theorem ki_MD : Cond.initialized "ProfileRightsModel" ∈ kw_L := kw_in 7 (by decide +kernel) (by decide +kernel)
theorem ki_TH : Cond.initialized "java/lang/Throwable" ∈ kw_L := kw_in 8 (by decide +kernel) (by decide +kernel)
theorem ki_EX : Cond.initialized "java/lang/Exception" ∈ kw_L := kw_in 9 (by decide +kernel) (by decide +kernel)
theorem ki_RE : Cond.initialized "java/lang/RuntimeException" ∈ kw_L := kw_in 10 (by decide +kernel) (by decide +kernel)
theorem ki_IA : Cond.initialized "java/lang/IllegalArgumentException" ∈ kw_L := kw_in 11 (by decide +kernel) (by decide +kernel)
theorem ki_OB : Cond.initialized "java/util/Objects" ∈ kw_L := kw_in 12 (by decide +kernel) (by decide +kernel)
theorem ki_PC : Cond.initialized "jdk/internal/util/Preconditions" ∈ kw_L := kw_in 13 (by decide +kernel) (by decide +kernel)
theorem ki_IS : Cond.initialized "java/lang/IllegalStateException" ∈ kw_L := kw_in 14 (by decide +kernel) (by decide +kernel)
theorem ki_GR : Cond.initialized "ProfileRights$Group" ∈ kw_L := kw_in 15 (by decide +kernel) (by decide +kernel)
theorem ki_AS : Cond.initialized "jdk/internal/util/ArraysSupport" ∈ kw_L := kw_in 16 (by decide +kernel) (by decide +kernel)
theorem ki_MA : Cond.initialized "java/lang/Math" ∈ kw_L := kw_in 17 (by decide +kernel) (by decide +kernel)
theorem ki_AR : Cond.initialized "java/util/Arrays" ∈ kw_L := kw_in 18 (by decide +kernel) (by decide +kernel)
theorem ki_SY : Cond.initialized "java/lang/System" ∈ kw_L := kw_in 19 (by decide +kernel) (by decide +kernel)
theorem ki_US : Cond.initialized "ProfileRights$User" ∈ kw_L := kw_in 20 (by decide +kernel) (by decide +kernel)
theorem ki_PF : Cond.initialized "ProfileRights$Profile" ∈ kw_L := kw_in 21 (by decide +kernel) (by decide +kernel)
theorem ki_EN : Cond.initialized "ProfileRights$Entry" ∈ kw_L := kw_in 22 (by decide +kernel) (by decide +kernel)
theorem kn_PR : Cond.instantiable "ProfileRights" 7 ∈ kw_L := kw_in 24 (by decide +kernel) (by decide +kernel)
theorem kn_AL : Cond.instantiable "java/util/ArrayList" 3 ∈ kw_L := kw_in 32 (by decide +kernel) (by decide +kernel)
theorem kn_NM : Cond.instantiable "ProfileRights$Name" 4 ∈ kw_L := kw_in 58 (by decide +kernel) (by decide +kernel)
theorem kn_TR : Cond.instantiable "ProfileRights$Trail" 3 ∈ kw_L := kw_in 79 (by decide +kernel) (by decide +kernel)
theorem kn_IA : Cond.instantiable "java/lang/IllegalArgumentException" 6 ∈ kw_L := kw_in 202 (by decide +kernel) (by decide +kernel)
theorem kn_TH : Cond.instantiable "java/lang/Throwable" 6 ∈ kw_L := kw_in 239 (by decide +kernel) (by decide +kernel)
theorem kn_IS : Cond.instantiable "java/lang/IllegalStateException" 6 ∈ kw_L := kw_in 270 (by decide +kernel) (by decide +kernel)
theorem kn_GR : Cond.instantiable "ProfileRights$Group" 2 ∈ kw_L := kw_in 285 (by decide +kernel) (by decide +kernel)
theorem kn_US : Cond.instantiable "ProfileRights$User" 6 ∈ kw_L := kw_in 376 (by decide +kernel) (by decide +kernel)
theorem kn_PF : Cond.instantiable "ProfileRights$Profile" 6 ∈ kw_L := kw_in 456 (by decide +kernel) (by decide +kernel)
theorem kn_EN : Cond.instantiable "ProfileRights$Entry" 4 ∈ kw_L := kw_in 554 (by decide +kernel) (by decide +kernel)
theorem kn_MD : Cond.instantiable "ProfileRightsModel" 27 ∈ kw_L := kw_in 676 (by decide +kernel) (by decide +kernel)
