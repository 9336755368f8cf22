/-! a start that the claim allows, but for one thing just as its own witness: the class String has, behind the methods that the claim's words speak of, a method charAt, with the code od_c -/
def od1.c40 : Class := { start1.c40 with
  methods := start1.c40.methods ++ #[Lib.HandJ.method "charAt" "(I)C" [.int] (some .char) 0x1 2 od_c],
  cf := start1.c40.cf.map fun f => { f with constantPool := f.constantPool ++ #[CpInfo.class_ 1158, CpInfo.utf8 (stringToUtf16 "java/lang/IllegalStateException"), CpInfo.methodref 1157 1160, CpInfo.nameAndType 1161 1162, CpInfo.utf8 (stringToUtf16 "<init>"), CpInfo.utf8 (stringToUtf16 "(Ljava/lang/String;)V"), CpInfo.string 1164, CpInfo.utf8 (stringToUtf16 "no such node")] },
  resolved := start1.c40.resolved ++ #[some (Resolved.cls 56), none, some (Resolved.method ⟨56, 0⟩), none, none, none, some (Resolved.string 294), none] }
def od1.args0 : Array Value := start1.args0
def od1.cells0 : Array Value := #[.int 5, .int 0, .int 0, .int 0]
def od1.about : State := { start1.aboutOf od1.cells0 with vm := { (start1.aboutOf od1.cells0).vm with classes := (start1.aboutOf od1.cells0).vm.classes.setIfInBounds 40 od1.c40 } }
def od1.p0 : Program := start1.p0
def od1.e0 : Env := start1.e0
theorem od1.cls_ne {j : Nat} (h : j ≠ 40) : od1.about.vm.classes[j]? = start1.about.vm.classes[j]? := by
  show ((start1.aboutOf od1.cells0).vm.classes.setIfInBounds 40 od1.c40)[j]? = (start1.aboutOf od1.cells0).vm.classes[j]?
  rw [Array.getElem?_setIfInBounds_ne (fun h9 => h h9.symm)]
set_option maxRecDepth 16384 in
theorem od1.cls_at : start1.about.vm.classes[40]? = some start1.c40 := by rfl
set_option maxRecDepth 16384 in
theorem od1.cls_lt : 40 < (start1.aboutOf od1.cells0).vm.classes.size := by decide +kernel
theorem od1.cls_od : od1.about.vm.classes[40]? = some od1.c40 := by
  show ((start1.aboutOf od1.cells0).vm.classes.setIfInBounds 40 od1.c40)[40]? = some od1.c40
  rw [Array.getElem?_setIfInBounds_self_of_lt od1.cls_lt]
theorem od1.find_same (xs ys : Array Class) (p : Class → Bool) (h : ∀ j : Nat, (xs[j]?).map p = (ys[j]?).map p) : xs.findIdx? p = ys.findIdx? p := by
  have one : ∀ (xs ys : Array Class), (∀ j : Nat, (xs[j]?).map p = (ys[j]?).map p) → ∀ i : Nat, xs.findIdx? p = some i → ys.findIdx? p = some i := by
    intro xs ys h i hi
    have h9 : ∀ j (hj : j < xs.size), ∃ hj' : j < ys.size, p ys[j] = p xs[j] := by
      intro j hj
      have h1 := h j
      rw [Array.getElem?_eq_getElem hj] at h1
      cases h2 : ys[j]? with
      | none => rw [h2] at h1; cases h1
      | some z =>
        obtain ⟨h3, h4⟩ := Array.getElem?_eq_some_iff.mp h2
        rw [h2] at h1
        exact ⟨h3, by rw [h4]; exact (Option.some.inj h1).symm⟩
    obtain ⟨h1, h2, h3⟩ := Array.findIdx?_eq_some_iff_getElem.mp hi
    obtain ⟨k1, k2⟩ := h9 i h1
    refine Array.findIdx?_eq_some_iff_getElem.mpr ⟨k1, by rw [k2]; exact h2, fun j hj => ?_⟩
    obtain ⟨m1, m2⟩ := h9 j (Nat.lt_trans hj h1)
    rw [m2]
    exact h3 j hj
  cases hx : xs.findIdx? p with
  | some i => exact (one xs ys h i hx).symm
  | none =>
    cases hy : ys.findIdx? p with
    | none => rfl
    | some i => rw [one ys xs (fun j => (h j).symm) i hy] at hx; cases hx
set_option maxRecDepth 16384 in
theorem od1.findClass (nm : String) : od1.about.vm.findClass nm = start1.about.vm.findClass nm := by
  unfold Vm.findClass
  refine od1.find_same _ _ _ fun j => ?_
  by_cases h : j = 40
  · subst h
    rw [od1.cls_od, od1.cls_at]
    rfl
  · rw [od1.cls_ne h]
set_option maxRecDepth 16384 in
theorem od1.c40_name : start1.c40.name = "java/lang/String" := by rfl
/-- the code that a name finds: as in the printed start, but for String's -/
theorem od1.code_at {x : MethodName} (hx : x.cls ≠ "java/lang/String") : (od1.about.methodNamed? x).bind od1.about.vm.method? = (start1.about.methodNamed? x).bind start1.about.vm.method? := by
  unfold State.methodNamed?
  rw [od1.findClass]
  cases hc : start1.about.vm.findClass x.cls with
  | none => simp only [Option.bind_eq_bind, Option.bind_none]
  | some c =>
    have hne : c ≠ 40 := fun h => by
      subst h
      obtain ⟨k, hk, hn⟩ := Vm.findClass_spec hc
      rw [od1.cls_at] at hk
      cases hk
      exact hx (hn.symm.trans od1.c40_name)
    have h1 := od1.cls_ne hne
    simp only [Option.bind_eq_bind, Option.bind_some, h1]
    cases hk : start1.about.vm.classes[c]? with
    | none => simp only [Option.bind_none]
    | some k =>
      simp only [Option.bind_some]
      cases k.findMethod x.name x.desc with
      | none => simp only [Option.bind_none]
      | some i =>
        simp only [Option.bind_some, Option.pure_def, Vm.method?, Option.bind_eq_bind, h1]
theorem od1.code_of {y : MethodName} {b : ByteArray} {n : Nat} {r : Option FieldType} {a : Array Value} (hx : y.cls ≠ "java/lang/String") (h : (Cond.code y b n r).before a start1.about = true) : (Cond.code y b n r).before od1.args0 od1.about = true := by
  have e : (Cond.code y b n r).before od1.args0 od1.about = (Cond.code y b n r).before a start1.about := by
    simp only [Cond.before, Cond.holds, Cond.value, od1.code_at hx]
  rw [e]; exact h
/-- a link of a method, but for what the pool's entries name -/
def tk_ml (s : State) (cls : String) (index : Nat) (x : MethodName) : Bool :=
  match s.memberEntry? cls index, s.vm.findClass cls, s.vm.findClass x.cls, s.methodFound? x.cls x.name x.desc with
  | some (ci, via), some d, some c, some m => match s.vm.classes[d]?, s.vm.classes[c]?, s.vm.classes[m.cls]?, s.vm.method? m with
    | some dk, some ck, some mk9, some meth => (s.openOr cls ci (.cls c) && s.vm.classAccessible {} ck dk) && (s.openOr cls index (.method m) && ck.isInterface == via &&
        x.cls != "java/lang/invoke/MethodHandle" && x.cls != "java/lang/invoke/VarHandle" && mk9.loader.isNone && (plainAccess s.vm meth.accessFlags m.cls mk9 c d dk || (ck.isArray && x.name == "clone" && m.cls != c)))
    | _, _, _, _ => false
  | _, _, _, _ => false
theorem tk_ml_ok {s : State} {cls : String} {index : Nat} {x : MethodName} {a : Array Value} (h : tk_ml s cls index x = true) (hn : s.names cls index (.method x.cls x.name x.desc) = true) (hc : ∀ (ci : Nat) (via : Bool), s.memberEntry? cls index = some (ci, via) → s.names cls ci (.cls x.cls) = true) : (Cond.methodLink cls index x).before a s = true := by
  unfold tk_ml at h
  split at h
  · rename_i ci via d c m e1 e2 e3 e4
    split at h
    · rename_i dk ck mk9 meth f1 f2 f3 f4
      obtain ⟨h1, h2⟩ := Bool.and_eq_true_iff.mp h
      have h0 : (s.names cls ci (.cls x.cls) && s.openOr cls ci (.cls c) && s.vm.classAccessible {} ck dk) = true := by
        rw [hc ci via e1, Bool.true_and]; exact h1
      have hcl : s.classLinks cls ci x.cls = some true := by
        unfold State.classLinks
        rw [e2, e3]
        simp only [Option.bind_eq_bind, Option.pure_def, f1, f2, Option.bind_some, h0]
      simp only [Cond.before, Cond.holds, Cond.value, e1, e2, e3, e4, hcl, f1, f2, f3, f4, hn, Option.bind_eq_bind, Option.pure_def, Option.bind_some, Bool.true_and, h2]
      rfl
    · cases h
  · cases h
theorem tk_ml_names {s : State} {cls : String} {index : Nat} {x : MethodName} {a : Array Value} (h : (Cond.methodLink cls index x).before a s = true) : s.names cls index (.method x.cls x.name x.desc) = true ∧ ∀ (ci : Nat) (via : Bool), s.memberEntry? cls index = some (ci, via) → s.names cls ci (.cls x.cls) = true := by
  simp only [Cond.before, Cond.holds, Cond.value] at h
  split at h
  · rename_i ci via d c m e1 e2 e3 e4
    cases hcl : s.classLinks cls ci x.cls with
    | none => rw [hcl] at h; simp only [Option.bind_eq_bind, Option.bind_none] at h; cases h
    | some linked =>
      rw [hcl] at h
      cases f1 : s.vm.classes[d]? with
      | none => rw [f1] at h; simp only [Option.bind_eq_bind, Option.bind_some, Option.bind_none] at h; cases h
      | some dk =>
        cases f2 : s.vm.classes[c]? with
        | none => rw [f1, f2] at h; simp only [Option.bind_eq_bind, Option.bind_some, Option.bind_none] at h; cases h
        | some ck =>
          cases f3 : s.vm.classes[m.cls]? with
          | none => rw [f1, f2, f3] at h; simp only [Option.bind_eq_bind, Option.bind_some, Option.bind_none] at h; cases h
          | some mk9 =>
            cases f4 : s.vm.method? m with
            | none => rw [f1, f2, f3, f4] at h; simp only [Option.bind_eq_bind, Option.bind_some, Option.bind_none] at h; cases h
            | some meth =>
              rw [f1, f2, f3, f4] at h
              simp only [Option.bind_eq_bind, Option.bind_some, Option.pure_def, beq_iff_eq, Option.some.injEq, Bool.and_eq_true] at h
              refine ⟨h.1.1.1.1.1.1.2, fun ci2 via2 hm => ?_⟩
              rw [e1] at hm
              cases hm
              have hl := h.1.1.1.1.1.1.1
              rw [hl] at hcl
              unfold State.classLinks at hcl
              rw [e2, e3] at hcl
              simp only [Option.bind_eq_bind, Option.pure_def, f1, f2, Option.bind_some, Option.some.injEq, Bool.and_eq_true] at hcl
              exact hcl.1.1
  · cases h
def tk_fl (s : State) (cls : String) (index : Nat) (ref name desc : String) : Bool :=
  match s.memberEntry? cls index, s.vm.findClass cls, s.fieldFound? ref name desc, s.vm.findClass ref with
  | some (ci, _), some d, some (c, k, i, f), some t => match s.vm.classes[d]?, s.vm.classes[t]? with
    | some dk, some tk => (s.openOr cls ci (.cls t) && s.vm.classAccessible {} tk dk) && (s.openOr cls index (.field c i) && k.loader.isNone && plainAccess s.vm f.accessFlags c k t d dk)
    | _, _ => false
  | _, _, _, _ => false
theorem tk_fl_ok {s : State} {cls : String} {index : Nat} {ref name desc : String} {a : Array Value} (h : tk_fl s cls index ref name desc = true) (hn : s.names cls index (.field ref name desc) = true) (hc : ∀ (ci : Nat) (via : Bool), s.memberEntry? cls index = some (ci, via) → s.names cls ci (.cls ref) = true) : (Cond.fieldLink cls index ref name desc).before a s = true := by
  unfold tk_fl at h
  split at h
  · rename_i ci via d c k i f t e1 e2 e3 e4
    split at h
    · rename_i dk tk f1 f2
      obtain ⟨h1, h2⟩ := Bool.and_eq_true_iff.mp h
      have h0 : (s.names cls ci (.cls ref) && s.openOr cls ci (.cls t) && s.vm.classAccessible {} tk dk) = true := by
        rw [hc ci _ e1, Bool.true_and]; exact h1
      have hcl : s.classLinks cls ci ref = some true := by
        unfold State.classLinks
        rw [e2, e4]
        simp only [Option.bind_eq_bind, Option.pure_def, f1, f2, Option.bind_some, h0]
      simp only [Cond.before, Cond.holds, Cond.value, e1, e2, e3, e4, hcl, f1, hn, Option.bind_eq_bind, Option.pure_def, Option.bind_some, Bool.true_and, h2]
      rfl
    · cases h
  · cases h
theorem tk_fl_names {s : State} {cls : String} {index : Nat} {ref name desc : String} {a : Array Value} (h : (Cond.fieldLink cls index ref name desc).before a s = true) : s.names cls index (.field ref name desc) = true ∧ ∀ (ci : Nat) (via : Bool), s.memberEntry? cls index = some (ci, via) → s.names cls ci (.cls ref) = true := by
  simp only [Cond.before, Cond.holds, Cond.value] at h
  split at h
  · rename_i ci via d c k i f t e1 e2 e3 e4
    cases hcl : s.classLinks cls ci ref with
    | none => rw [hcl] at h; simp only [Option.bind_eq_bind, Option.bind_none] at h; cases h
    | some linked =>
      rw [hcl] at h
      cases f1 : s.vm.classes[d]? with
      | none => rw [f1] at h; simp only [Option.bind_eq_bind, Option.bind_some, Option.bind_none] at h; cases h
      | some dk =>
        rw [f1] at h
        simp only [Option.bind_eq_bind, Option.bind_some, Option.pure_def, beq_iff_eq, Option.some.injEq, Bool.and_eq_true] at h
        refine ⟨h.1.1.1.2, fun ci2 via2 hm => ?_⟩
        rw [e1] at hm
        cases hm
        have hl := h.1.1.1.1
        rw [hl] at hcl
        unfold State.classLinks at hcl
        rw [e2, e4] at hcl
        cases f2 : s.vm.classes[t]? with
        | none => simp only [Option.bind_eq_bind, f1, f2, Option.bind_some, Option.bind_none] at hcl; cases hcl
        | some tk =>
          simp only [Option.bind_eq_bind, Option.pure_def, f1, f2, Option.bind_some, Option.some.injEq, Bool.and_eq_true] at hcl
          exact hcl.1.1
  · cases h
theorem od1.pool_eq {cls : String} (hx : cls ≠ "java/lang/String") : od1.about.poolOf? cls = start1.about.poolOf? cls := by
  unfold State.poolOf?
  rw [od1.findClass]
  cases hc : start1.about.vm.findClass cls with
  | none => simp only [Option.bind_eq_bind, Option.bind_none]
  | some c =>
    have hne : c ≠ 40 := fun h => by
      subst h
      obtain ⟨k, hk, hn⟩ := Vm.findClass_spec hc
      rw [od1.cls_at] at hk
      cases hk
      exact hx (hn.symm.trans od1.c40_name)
    simp only [Option.bind_eq_bind, Option.bind_some, od1.cls_ne hne]
theorem od1.names_eq {cls : String} (hx : cls ≠ "java/lang/String") (i : Nat) (w : Names) : od1.about.names cls i w = start1.about.names cls i w := by
  unfold State.names
  rw [od1.pool_eq hx]
theorem od1.entry_eq {cls : String} (hx : cls ≠ "java/lang/String") (i : Nat) : od1.about.memberEntry? cls i = start1.about.memberEntry? cls i := by
  unfold State.memberEntry?
  rw [od1.pool_eq hx]
def od1.chk (c : Cond) : Bool := match c with
  | .methodLink cls i x => cls != "java/lang/String" && tk_ml od1.about cls i x || (Cond.methodLink cls i x).before od1.args0 od1.about
  | .fieldLink cls i ref name desc => cls != "java/lang/String" && tk_fl od1.about cls i ref name desc || (Cond.fieldLink cls i ref name desc).before od1.args0 od1.about
  | c => su_isCode c || c.before od1.args0 od1.about
theorem od1.from_chk {l : List Cond} (hs : ∀ c ∈ l, c.before start1.args0 start1.about = true) (h : l.all od1.chk = true) : l.all (fun c => su_isCode c || c.before od1.args0 od1.about) = true := List.all_eq_true.mpr fun c hc => by
  have h1 := List.all_eq_true.mp h c hc
  have h2 := hs c hc
  clear h hs hc
  unfold od1.chk at h1
  split at h1
  · rename_i cls i x
    rcases Bool.or_eq_true_iff.mp h1 with h3 | h3
    · obtain ⟨h4, h5⟩ := Bool.and_eq_true_iff.mp h3
      have hx : cls ≠ "java/lang/String" := bne_iff_ne.mp h4
      have h6 : (Cond.methodLink cls i x).before od1.args0 od1.about = true := tk_ml_ok h5 (by rw [od1.names_eq hx]; exact (tk_ml_names h2).1) (fun ci via hm => by rw [od1.names_eq hx]; exact (tk_ml_names h2).2 ci via (by rw [← od1.entry_eq hx]; exact hm))
      show (su_isCode (Cond.methodLink cls i x) || (Cond.methodLink cls i x).before od1.args0 od1.about) = true
      rw [h6, Bool.or_true]
    · show (su_isCode (Cond.methodLink cls i x) || (Cond.methodLink cls i x).before od1.args0 od1.about) = true
      rw [h3, Bool.or_true]
  · rename_i cls i ref name desc
    rcases Bool.or_eq_true_iff.mp h1 with h3 | h3
    · obtain ⟨h4, h5⟩ := Bool.and_eq_true_iff.mp h3
      have hx : cls ≠ "java/lang/String" := bne_iff_ne.mp h4
      have h6 : (Cond.fieldLink cls i ref name desc).before od1.args0 od1.about = true := tk_fl_ok h5 (by rw [od1.names_eq hx]; exact (tk_fl_names h2).1) (fun ci via hm => by rw [od1.names_eq hx]; exact (tk_fl_names h2).2 ci via (by rw [← od1.entry_eq hx]; exact hm))
      show (su_isCode (Cond.fieldLink cls i ref name desc) || (Cond.fieldLink cls i ref name desc).before od1.args0 od1.about) = true
      rw [h6, Bool.or_true]
    · show (su_isCode (Cond.fieldLink cls i ref name desc) || (Cond.fieldLink cls i ref name desc).before od1.args0 od1.about) = true
      rw [h3, Bool.or_true]
  · exact h1
