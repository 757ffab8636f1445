theorem kj_in : Cond.instanceMethod Lib.objectInit ∈ kw_L := kw_in 29 (by decide +kernel) (by decide +kernel)
theorem kj_cd : Cond.code Lib.objectInit ⟨#[0xb1]⟩ 1 none ∈ kw_L := kw_in 30 (by decide +kernel) (by decide +kernel)
theorem hp_uu {h : hp_T} {a : Nat} {x y : va_E} : hp_up (hp_up h a x) a y = hp_up h a y := by
  funext q
  unfold hp_up
  split <;> rfl
theorem at_IA : ∀ w ∈ vx_atS "ProfileRights" 109 "java/lang/IllegalArgumentException" ["java/lang/RuntimeException", "java/lang/Exception"], w ∈ kw_L := by decide +kernel
theorem ag_IA : (Cond.classLink "ProfileRights" 105 "java/lang/IllegalArgumentException" :: Cond.initialized "java/lang/IllegalArgumentException" :: vx_atS "ProfileRights" 109 "java/lang/IllegalArgumentException" ["java/lang/RuntimeException", "java/lang/Exception"]).all vx_ot = true := by decide +kernel
theorem at_IS : ∀ w ∈ vx_atS "ProfileRights" 56 "java/lang/IllegalStateException" ["java/lang/RuntimeException", "java/lang/Exception"], w ∈ kw_L := by decide +kernel
theorem ag_IS : (Cond.classLink "ProfileRights" 52 "java/lang/IllegalStateException" :: Cond.initialized "java/lang/IllegalStateException" :: vx_atS "ProfileRights" 56 "java/lang/IllegalStateException" ["java/lang/RuntimeException", "java/lang/Exception"]).all vx_ot = true := by decide +kernel
def eA : String := "java/lang/IllegalArgumentException"
def eS : String := "java/lang/IllegalStateException"
section TH
variable {p : Program} {l : Launch} {e : Env} {R : Room} {s : State} {m : MethodId} {args : Array Value} {below : List Frame} {meth : Method} {c : Code} {Q : State → Prop}
variable {cc : ByteArray} {nL : Nat} {ret : Option FieldType} {D : va_G} {HB : Heap}
variable {h : hp_T} {cells slots pc : Nat} {lv : List (Nat × Value)} {rest : List Value} {post : ct_O → hp_T → Prop} {mc ms : Nat}
theorem Wk.he {h2 : hp_T} {st : List Value} (e1 : h = h2) (k : Wk p l e R s m args below meth c nL D HB Q h2 cells slots pc lv st) : Wk p l e R s m args below meth c nL D HB Q h cells slots pc lv st := e1 ▸ k
theorem wk_thrA (C : wk_C p s m args meth c cc "ProfileRights" nL ret [] D HB) (hlt : l.stackTraces = false) {text : String} {is : Nat} (hstr : ("ProfileRights", is, text) ∈ st_L) (d0 : decode cc pc = .ok (.new 105, 3)) (d3 : decode cc (pc + 3) = .ok (.dup, 1)) (d4 : decode cc (pc + 4) = .ok (.ldc is, 2)) (d6 : decode cc (pc + 6) = .ok (.invokespecial 109, 3)) (d9 : decode cc (pc + 9) = .ok (.athrow, 1))
    (hf : 5 < R.frames) (hlo : (rest.map fun v => v.category).sum + 82 ≤ R.locals) (hrc : cells + 1 ≤ R.cells) (hrs : slots + 6 ≤ R.slots) (hc : cells + 1 ≤ mc) (hs : slots + 6 ≤ ms) (hp : post (.inr eA) h) : Wk p l e R s m args below meth c nL D HB (ct_Q below D HB post s mc ms) h cells slots pc lv rest :=
  wk_throw C hlt (E := "java/lang/IllegalArgumentException") (names := ["java/lang/RuntimeException", "java/lang/Exception"]) (by decide) (by decide) cl_PR_105 ki_IA hstr at_IA ag_IA d0 d3 d4 d6 d9 hf hlo hrc hrs hc hs hp
theorem wk_thrS (C : wk_C p s m args meth c cc "ProfileRights" nL ret [] D HB) (hlt : l.stackTraces = false) {text : String} {is : Nat} (hstr : ("ProfileRights", is, text) ∈ st_L) (d0 : decode cc pc = .ok (.new 52, 3)) (d3 : decode cc (pc + 3) = .ok (.dup, 1)) (d4 : decode cc (pc + 4) = .ok (.ldc is, 2)) (d6 : decode cc (pc + 6) = .ok (.invokespecial 56, 3)) (d9 : decode cc (pc + 9) = .ok (.athrow, 1))
    (hf : 5 < R.frames) (hlo : (rest.map fun v => v.category).sum + 82 ≤ R.locals) (hrc : cells + 1 ≤ R.cells) (hrs : slots + 6 ≤ R.slots) (hc : cells + 1 ≤ mc) (hs : slots + 6 ≤ ms) (hp : post (.inr eS) h) : Wk p l e R s m args below meth c nL D HB (ct_Q below D HB post s mc ms) h cells slots pc lv rest :=
  wk_throw C hlt (E := "java/lang/IllegalStateException") (names := ["java/lang/RuntimeException", "java/lang/Exception"]) (by decide) (by decide) cl_PR_52 ki_IS hstr at_IS ag_IS d0 d3 d4 d6 d9 hf hlo hrc hrs hc hs hp
end TH
