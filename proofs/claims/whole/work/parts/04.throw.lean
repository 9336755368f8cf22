/-! what a throw of the class needs of the world: two statics of Throwable, the exceptions' own casts, the texts -/
def xw_E : List String := ["java/lang/IllegalStateException", "java/lang/IllegalArgumentException", "java/lang/IndexOutOfBoundsException", "java/lang/UnsupportedOperationException", "java/util/NoSuchElementException"]
def xw_T : List (Nat × String) := [(52, "no such type or length"), (60, "an array of pointers"), (68, "there are 10 variables"), (80, "no number type, or a second parameter without a first one"), (88, "no such variable"), (97, "no such parameters can be"), (103, "there are 3 functions"), (130, "no such function or statement"), (137, "the statement is part of something"), (151, "no number type, or it has not this value"), (184, "no such kind"), (190, "no such node"), (202, "no such node can be"), (204, "no number type"), (223, "no such function or node"), (245, "there are 100 nodes"), (250, "no such statement can be"), (262, "the variable is global"), (264, "no such node or statement"), (270, "no such statement"), (279, "there are 60 statements"), (314, "the function 0 has no body, or parameters"), (316, "the order is less than 0"), (329, "nothing without a meaning"), (338, "no such character")]
abbrev xw_N : List String := ["java/lang/RuntimeException", "java/lang/Exception"]
def xw (A : Nat → Prop) (U : State) (H : Heap) : Prop := (vx_Zq Bundle.tN "UNASSIGNED_STACK" Bundle.steD A U H ∧ vx_Zq Bundle.tN "SUPPRESSED_SENTINEL" Bundle.listD A U H) ∧ ((∀ E ∈ xw_E, va_Nw (.castable E E) U) ∧ ∀ n ∈ xw_N ++ [Bundle.tN], va_Nw (.declares (Bundle.initS n)) U) ∧ ∀ q ∈ xw_T, ∃ a : Nat, vk_R RX11 q.1 q.2 a U
theorem xw.call {A B : Nat → Prop} {s U : State} {H : Heap} {locs : List Loc} (h : xw A s s.heap) (hS : va_S A s.heap H locs) (hAB : ∀ q, B q → A q) (hW : s.WarmedH U.vm) (hU : U.heap = H) : xw B U U.heap := by
  obtain ⟨⟨h1, h2⟩, ⟨h3, h5⟩, h4⟩ := h
  rw [hU]
  exact ⟨⟨((h1.kept hS.2.1).narrow hAB).moved hW.alike, ((h2.kept hS.2.1).narrow hAB).moved hW.alike⟩, ⟨fun E hE => va_Nw.warmC hW (h3 E hE), fun n hn => va_Nw.warmD hW (h5 n hn)⟩, fun q hq => by obtain ⟨a, ha⟩ := h4 q hq; exact ⟨a, vk_R.warm hW ha⟩⟩
theorem xw.blind {A : Nat → Prop} {U : State} (a : Array Value) (g : JFrame) (mk : MethodId) (h : xw A U U.heap) : xw A (U.calling g mk a) (U.calling g mk a).heap := by
  obtain ⟨⟨h1, h2⟩, ⟨h3, h5⟩, h4⟩ := h
  exact ⟨⟨h1.moved (u := U) (U := U.calling g mk a) (Vm.Alike.refl U.vm), h2.moved (u := U) (U := U.calling g mk a) (Vm.Alike.refl U.vm)⟩, ⟨fun E hE => va_Nw.same (u := U) (U := U.calling g mk a) rfl rfl (h3 E hE), fun n hn => va_Nw.same (u := U) (U := U.calling g mk a) rfl rfl (h5 n hn)⟩, fun q hq => by obtain ⟨a9, ha⟩ := h4 q hq; exact ⟨a9, vk_R.same (u := U) (U := U.calling g mk a) rfl ha⟩⟩
theorem xw_F {A : Nat → Prop} {s t : State} {H : Heap} {locs : List Loc} (hS : va_S A s.heap H locs) (h1 : H.size ≤ t.heap.size) (h2 : ∀ q : Nat, q < H.size → t.heap[q]? = H[q]?) : va_F A s t :=
  ⟨Nat.le_trans hS.1 h1, fun q g1 g2 => by rw [h2 q (Nat.lt_of_lt_of_le g1 hS.1)]; exact hS.2.1 q g1 g2⟩
def xw_B (E : String) : List Cond := Cond.castable E E :: (xw_N ++ [Bundle.tN]).map (fun n => Cond.declares (Bundle.initS n))
theorem xw.bad {A : Nat → Prop} {args : Array Value} {s : State} {H : Heap} (h : xw A s H) {E : String} (hE : E ∈ xw_E) : ∀ w ∈ xw_B E, w.before args s = true := by
  intro w hw
  rcases List.mem_cons.mp hw with rfl | hw
  · exact va_Nw.use rfl (h.2.1.1 E hE)
  · obtain ⟨n, hn, rfl⟩ := List.mem_map.mp hw
    exact va_Nw.use rfl (h.2.1.2 n hn)
/-- 'throw new E("text")' in a method of the class itself -/
theorem xw_throw {p : Program} {l : Launch} {e : Env} {R : Room} {s : State} {m : MethodId} {args : Array Value} {below : List Frame} {meth : Method} {c : Code} {H : Heap} {locs : List Loc} {cells slots : Nat} {mc ms : Nat} {free : Addr → Prop} {A : Nat → Prop} {ls : Array Slot} {rest : List Value} {Qc : Array Value → State → Outcome → State → Prop} {XC : String → State → State → Prop} {cc : ByteArray} {pc : Nat}
    (hexec : p.tables.exec = Jvm.exec) (hb : c.code = cc) (hl : l.stackTraces = false) {E text : String} {ik is ic : Nat} (hown : s.vm.findClass RX11 = some m.cls) (hE : E ∈ xw_E) (hfit : Bundle.fit E = true) (hk : (Cond.classLink RX11 ik E).before args s = true) (hini : (Cond.initialized E).before args s = true) (hq : (is, text) ∈ xw_T)
    (hg : ∀ w ∈ (vx_atS RX11 ic E xw_N).filter goodWord, w.before args s = true) (hbad : ∀ w ∈ (vx_atS RX11 ic E xw_N).filter (fun w => !goodWord w), w ∈ xw_B E) (hgood : ∀ w ∈ Cond.classLink RX11 ik E :: Cond.initialized E :: vx_atS RX11 ic E xw_N, vx_ot w = true)
    (hX : xw A s s.heap) (hS : va_S A s.heap H locs) (hsize : ls.size = c.maxLocals)
    (d0 : decode cc pc = .ok (.new ik, 3)) (d3 : decode cc (pc + 3) = .ok (.dup, 1)) (d4 : decode cc (pc + 4) = .ok (.ldc is, 2)) (d6 : decode cc (pc + 6) = .ok (.invokespecial ic, 3)) (d9 : decode cc (pc + 9) = .ok (.athrow, 1))
    (hno : ∀ x ∈ c.exceptionTable.toList, False) (hRframes : 5 < R.frames) (hRlocals : (rest.map fun v => v.category).sum + 82 ≤ R.locals) (hRcells : cells + 1 ≤ R.cells) (hRslots : slots + 6 ≤ R.slots) (hlocks : meth.locks = false)
    (hx : ∀ t : State, s.vm.Alike t.vm → va_F A s t → XC E s t) (hf : ∀ z ∈ locs, free z.base) (hc : cells + 1 ≤ mc) (hs : slots + 6 ≤ ms) :
    W p l e R s m args below meth c H locs cells slots (vx_MQ below Qc XC args s mc ms free) (F0 m pc ls rest) := by
  obtain ⟨sa, hsa⟩ := hX.2.2 (is, text) hq
  exact vx_throwS (names := xw_N) (A := A) (sa := sa) hexec hb hl hown hfit (by decide +kernel) hk hini hsa (vx_hat hg hbad (hX.bad hE)) hgood hX.1.1 hX.1.2 hS hsize d0 d3 d4 d6 d9 (fun x h => (hno x h).elim) hRframes hRlocals hRcells hRslots hlocks (fun t h1 h2 h3 => hx t h1 (xw_F hS h2 h3)) hf hc hs
theorem xw_bIAE : ∀ w ∈ (vx_atS RX11 54 "java/lang/IllegalArgumentException" xw_N).filter (fun w => !goodWord w), w ∈ xw_B "java/lang/IllegalArgumentException" := by decide +kernel
theorem xw_gIAE : ∀ w ∈ Cond.classLink RX11 50 "java/lang/IllegalArgumentException" :: Cond.initialized "java/lang/IllegalArgumentException" :: vx_atS RX11 54 "java/lang/IllegalArgumentException" xw_N, vx_ot w = true := by decide +kernel
