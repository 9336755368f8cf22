/-! a start that the claim allows, but for one thing just as its own witness: the class String has, behind the methods that the claim's words speak of, a method charAt, with the code od_c -/
def od1.c40 : Class := { start1.c40 with
  methods := start1.c40.methods ++ #[Lib.HandJ.method "charAt" "(I)C" [.int] (some .char) 0x1 2 od_c],
  cf := start1.c40.cf.map fun f => { f with constantPool := f.constantPool ++ #[CpInfo.class_ 1158, CpInfo.utf8 (stringToUtf16 "java/lang/IllegalStateException"), CpInfo.methodref 1157 1160, CpInfo.nameAndType 1161 1162, CpInfo.utf8 (stringToUtf16 "<init>"), CpInfo.utf8 (stringToUtf16 "(Ljava/lang/String;)V"), CpInfo.string 1164, CpInfo.utf8 (stringToUtf16 "no such node")] },
  resolved := start1.c40.resolved ++ #[some (Resolved.cls 56), none, some (Resolved.method ⟨56, 0⟩), none, none, none, some (Resolved.string 294), none] }
def od1.args0 : Array Value := start1.args0
def od1.cells0 : Array Value := #[.int 5, .int 0, .int 0, .int 0]
def od1.about : State := { start1.aboutOf od1.cells0 with vm := { (start1.aboutOf od1.cells0).vm with classes := (start1.aboutOf od1.cells0).vm.classes.setIfInBounds 40 od1.c40 } }
def od1.p0 : Program := start1.p0
def od1.e0 : Env := start1.e0
theorem od1.cls_ne {j : Nat} (h : j ≠ 40) : od1.about.vm.classes[j]? = start1.about.vm.classes[j]? := by
  show ((start1.aboutOf od1.cells0).vm.classes.setIfInBounds 40 od1.c40)[j]? = (start1.aboutOf od1.cells0).vm.classes[j]?
  rw [Array.getElem?_setIfInBounds_ne (fun h9 => h h9.symm)]
set_option maxRecDepth 16384 in
theorem od1.cls_at : start1.about.vm.classes[40]? = some start1.c40 := by rfl
set_option maxRecDepth 16384 in
theorem od1.cls_lt : 40 < (start1.aboutOf od1.cells0).vm.classes.size := by decide +kernel
theorem od1.cls_od : od1.about.vm.classes[40]? = some od1.c40 := by
  show ((start1.aboutOf od1.cells0).vm.classes.setIfInBounds 40 od1.c40)[40]? = some od1.c40
  rw [Array.getElem?_setIfInBounds_self_of_lt od1.cls_lt]
theorem od1.find_same (xs ys : Array Class) (p : Class → Bool) (h : ∀ j : Nat, (xs[j]?).map p = (ys[j]?).map p) : xs.findIdx? p = ys.findIdx? p := by
  have one : ∀ (xs ys : Array Class), (∀ j : Nat, (xs[j]?).map p = (ys[j]?).map p) → ∀ i : Nat, xs.findIdx? p = some i → ys.findIdx? p = some i := by
    intro xs ys h i hi
    have h9 : ∀ j (hj : j < xs.size), ∃ hj' : j < ys.size, p ys[j] = p xs[j] := by
      intro j hj
      have h1 := h j
      rw [Array.getElem?_eq_getElem hj] at h1
      cases h2 : ys[j]? with
      | none => rw [h2] at h1; cases h1
      | some z =>
        obtain ⟨h3, h4⟩ := Array.getElem?_eq_some_iff.mp h2
        rw [h2] at h1
        exact ⟨h3, by rw [h4]; exact (Option.some.inj h1).symm⟩
    obtain ⟨h1, h2, h3⟩ := Array.findIdx?_eq_some_iff_getElem.mp hi
    obtain ⟨k1, k2⟩ := h9 i h1
    refine Array.findIdx?_eq_some_iff_getElem.mpr ⟨k1, by rw [k2]; exact h2, fun j hj => ?_⟩
    obtain ⟨m1, m2⟩ := h9 j (Nat.lt_trans hj h1)
    rw [m2]
    exact h3 j hj
  cases hx : xs.findIdx? p with
  | some i => exact (one xs ys h i hx).symm
  | none =>
    cases hy : ys.findIdx? p with
    | none => rfl
    | some i => rw [one ys xs (fun j => (h j).symm) i hy] at hx; cases hx
set_option maxRecDepth 16384 in
theorem od1.findClass (nm : String) : od1.about.vm.findClass nm = start1.about.vm.findClass nm := by
  unfold Vm.findClass
  refine od1.find_same _ _ _ fun j => ?_
  by_cases h : j = 40
  · subst h
    rw [od1.cls_od, od1.cls_at]
    rfl
  · rw [od1.cls_ne h]
set_option maxRecDepth 16384 in
theorem od1.c40_name : start1.c40.name = "java/lang/String" := by rfl
/-- the code that a name finds: as in the printed start, but for String's -/
theorem od1.code_at {x : MethodName} (hx : x.cls ≠ "java/lang/String") : (od1.about.methodNamed? x).bind od1.about.vm.method? = (start1.about.methodNamed? x).bind start1.about.vm.method? := by
  unfold State.methodNamed?
  rw [od1.findClass]
  cases hc : start1.about.vm.findClass x.cls with
  | none => simp only [Option.bind_eq_bind, Option.bind_none]
  | some c =>
    have hne : c ≠ 40 := fun h => by
      subst h
      obtain ⟨k, hk, hn⟩ := Vm.findClass_spec hc
      rw [od1.cls_at] at hk
      cases hk
      exact hx (hn.symm.trans od1.c40_name)
    have h1 := od1.cls_ne hne
    simp only [Option.bind_eq_bind, Option.bind_some, h1]
    cases hk : start1.about.vm.classes[c]? with
    | none => simp only [Option.bind_none]
    | some k =>
      simp only [Option.bind_some]
      cases k.findMethod x.name x.desc with
      | none => simp only [Option.bind_none]
      | some i =>
        simp only [Option.bind_some, Option.pure_def, Vm.method?, Option.bind_eq_bind, h1]
theorem od1.code_of {y : MethodName} {b : ByteArray} {n : Nat} {r : Option FieldType} {a : Array Value} (hx : y.cls ≠ "java/lang/String") (h : (Cond.code y b n r).before a start1.about = true) : (Cond.code y b n r).before od1.args0 od1.about = true := by
  have e : (Cond.code y b n r).before od1.args0 od1.about = (Cond.code y b n r).before a start1.about := by
    simp only [Cond.before, Cond.holds, Cond.value, od1.code_at hx]
  rw [e]; exact h
