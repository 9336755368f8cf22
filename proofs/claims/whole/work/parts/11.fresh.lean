set_option maxHeartbeats 4000000 in
set_option maxRecDepth 100000 in
theorem z_X7_variableAt (l : Launch) (dC : Nat → ClassId) (dI : Nat → Nat → Nat) (pr : Nat) (av : Nat) (af : Nat) (ab : Nat) (an : Nat) (at_ : Nat) (i : Int32) : Met l yX7_variableAt wsX7_variableAt ({ frames := 0, cells := 0, slots := 0, locals := 0 }) (va_Pc [.ref pr, .int i] (fun U => va_P (dC, dI) vwCl [(pr, .inr (10, [.ref av, .ref af, .ref ab, .ref an, .ref at_, .int 0, .int 0, .int 0, .int 0]))] U.heap ∧ va_K (dC, dI) vwCl [] U)) (va_Sq (fun r => r = none)) 0 0 (fun _ => False) := by
  refine Met.ofW (cc := cX7_variableAt) (maxL := 2) (ret := (some (.object "Sequencepoint$Variable"))) (by decide) rfl ?_
  intro p e s m args below meth c s₁ B hml hv
  obtain ⟨rfl, hP, hK⟩ := hv
  have hx := B.exec
  have hb := B.bytes
  have hr := B.returns
  have hts := atoms_spec (ws := wsX7_variableAt) B.pre
  have hown : s.vm.findClass RX7 = some m.cls := findClass_of_methodNamed B.named
  have hlocks := B.notSynchronized
  have hl := lv_entry ([.ref pr, .int i]) (n := 2) (Nat.le_of_ble_eq_true rfl)
  rw [lg_entry_eq]
  generalize (lg_sl ([.ref pr, .int i]) ++ List.replicate (2 - (lg_sl ([.ref pr, .int i])).length) Slot.unset).toArray = ls at hl ⊢
  have hl : lv_has ls 2 [(0, .ref pr), (1, .int i)] := hl
  have hP : va_P (dC, dI) vwCl [(pr, .inr (10, [.ref av, .ref af, .ref ab, .ref an, .ref at_, .int 0, .int 0, .int 0, .int 0]))] s.heap := hP
  refine lv_iload_n hx hb dX7_variableAt_0 rfl (lv_at hl 1 rfl) ?_
  refine lv_if_lt (tgt := 30) hx hb dX7_variableAt_1 (by decide) (fun c_1 => ?_) (fun c_1 => ?_)
  · refine lv_null hx hb dX7_variableAt_30 ?_
    exact W.aret (v := .null) hx hb hr (Or.inl ⟨_, rfl⟩) (Or.inl rfl) (fun t ht hW => ⟨none, rfl, rfl, ht⟩) (fun q h => nomatch h) dX7_variableAt_31
  · refine lv_iload_n hx hb dX7_variableAt_4 rfl (lv_at hl 1 rfl) ?_
    refine lv_aload_n hx hb dX7_variableAt_5 rfl (lv_at hl 0 rfl) ?_
    refine va_get (D := (dC, dI)) (ci := 10) (v := .int 0) (C := RX7) (T := TX7) (N := 9) hx hb hts (by decide +kernel) hown hK hP 0 rfl rfl 5 (by decide) (hts (.fieldLink RX7 38 "Sequencepoint$Program" "variableCount" "I") (by decide +kernel)) (fun _ h9 => h9) rfl dX7_variableAt_6 ?_
    refine lv_icmp_ge (tgt := 30) hx hb dX7_variableAt_9 (by decide) (fun c_2 => ?_) (fun c_2 => absurd (Int32.not_lt.mp c_1) c_2)
    refine lv_null hx hb dX7_variableAt_30 ?_
    exact W.aret (v := .null) hx hb hr (Or.inl ⟨_, rfl⟩) (Or.inl rfl) (fun t ht hW => ⟨none, rfl, rfl, ht⟩) (fun q h => nomatch h) dX7_variableAt_31

set_option maxHeartbeats 4000000 in
set_option maxRecDepth 100000 in
theorem z_X7_functionAt (l : Launch) (dC : Nat → ClassId) (dI : Nat → Nat → Nat) (pr : Nat) (av : Nat) (af : Nat) (ab : Nat) (an : Nat) (at_ : Nat) (i : Int32) : Met l yX7_functionAt wsX7_functionAt ({ frames := 0, cells := 0, slots := 0, locals := 0 }) (va_Pc [.ref pr, .int i] (fun U => va_P (dC, dI) vwCl [(pr, .inr (10, [.ref av, .ref af, .ref ab, .ref an, .ref at_, .int 0, .int 0, .int 0, .int 0]))] U.heap ∧ va_K (dC, dI) vwCl [] U)) (va_Sq (fun r => r = none)) 0 0 (fun _ => False) := by
  refine Met.ofW (cc := cX7_functionAt) (maxL := 2) (ret := (some (.object "Sequencepoint$Function"))) (by decide) rfl ?_
  intro p e s m args below meth c s₁ B hml hv
  obtain ⟨rfl, hP, hK⟩ := hv
  have hx := B.exec
  have hb := B.bytes
  have hr := B.returns
  have hts := atoms_spec (ws := wsX7_functionAt) B.pre
  have hown : s.vm.findClass RX7 = some m.cls := findClass_of_methodNamed B.named
  have hlocks := B.notSynchronized
  have hl := lv_entry ([.ref pr, .int i]) (n := 2) (Nat.le_of_ble_eq_true rfl)
  rw [lg_entry_eq]
  generalize (lg_sl ([.ref pr, .int i]) ++ List.replicate (2 - (lg_sl ([.ref pr, .int i])).length) Slot.unset).toArray = ls at hl ⊢
  have hl : lv_has ls 2 [(0, .ref pr), (1, .int i)] := hl
  have hP : va_P (dC, dI) vwCl [(pr, .inr (10, [.ref av, .ref af, .ref ab, .ref an, .ref at_, .int 0, .int 0, .int 0, .int 0]))] s.heap := hP
  refine lv_iload_n hx hb dX7_functionAt_0 rfl (lv_at hl 1 rfl) ?_
  refine lv_if_lt (tgt := 30) hx hb dX7_functionAt_1 (by decide) (fun c_1 => ?_) (fun c_1 => ?_)
  · refine lv_null hx hb dX7_functionAt_30 ?_
    exact W.aret (v := .null) hx hb hr (Or.inl ⟨_, rfl⟩) (Or.inl rfl) (fun t ht hW => ⟨none, rfl, rfl, ht⟩) (fun q h => nomatch h) dX7_functionAt_31
  · refine lv_iload_n hx hb dX7_functionAt_4 rfl (lv_at hl 1 rfl) ?_
    refine lv_aload_n hx hb dX7_functionAt_5 rfl (lv_at hl 0 rfl) ?_
    refine va_get (D := (dC, dI)) (ci := 10) (v := .int 0) (C := RX7) (T := TX7) (N := 9) hx hb hts (by decide +kernel) hown hK hP 0 rfl rfl 6 (by decide) (hts (.fieldLink RX7 42 "Sequencepoint$Program" "functionCount" "I") (by decide +kernel)) (fun _ h9 => h9) rfl dX7_functionAt_6 ?_
    refine lv_icmp_ge (tgt := 30) hx hb dX7_functionAt_9 (by decide) (fun c_2 => ?_) (fun c_2 => absurd (Int32.not_lt.mp c_1) c_2)
    refine lv_null hx hb dX7_functionAt_30 ?_
    exact W.aret (v := .null) hx hb hr (Or.inl ⟨_, rfl⟩) (Or.inl rfl) (fun t ht hW => ⟨none, rfl, rfl, ht⟩) (fun q h => nomatch h) dX7_functionAt_31

set_option maxHeartbeats 4000000 in
set_option maxRecDepth 100000 in
theorem z_X7_nodeAt (l : Launch) (dC : Nat → ClassId) (dI : Nat → Nat → Nat) (pr : Nat) (av : Nat) (af : Nat) (ab : Nat) (an : Nat) (at_ : Nat) (i : Int32) : Met l yX7_nodeAt wsX7_nodeAt ({ frames := 0, cells := 0, slots := 0, locals := 0 }) (va_Pc [.ref pr, .int i] (fun U => va_P (dC, dI) vwCl [(pr, .inr (10, [.ref av, .ref af, .ref ab, .ref an, .ref at_, .int 0, .int 0, .int 0, .int 0]))] U.heap ∧ va_K (dC, dI) vwCl [] U)) (va_Sq (fun r => r = none)) 0 0 (fun _ => False) := by
  refine Met.ofW (cc := cX7_nodeAt) (maxL := 2) (ret := (some (.object "Sequencepoint$Node"))) (by decide) rfl ?_
  intro p e s m args below meth c s₁ B hml hv
  obtain ⟨rfl, hP, hK⟩ := hv
  have hx := B.exec
  have hb := B.bytes
  have hr := B.returns
  have hts := atoms_spec (ws := wsX7_nodeAt) B.pre
  have hown : s.vm.findClass RX7 = some m.cls := findClass_of_methodNamed B.named
  have hlocks := B.notSynchronized
  have hl := lv_entry ([.ref pr, .int i]) (n := 2) (Nat.le_of_ble_eq_true rfl)
  rw [lg_entry_eq]
  generalize (lg_sl ([.ref pr, .int i]) ++ List.replicate (2 - (lg_sl ([.ref pr, .int i])).length) Slot.unset).toArray = ls at hl ⊢
  have hl : lv_has ls 2 [(0, .ref pr), (1, .int i)] := hl
  have hP : va_P (dC, dI) vwCl [(pr, .inr (10, [.ref av, .ref af, .ref ab, .ref an, .ref at_, .int 0, .int 0, .int 0, .int 0]))] s.heap := hP
  refine lv_iload_n hx hb dX7_nodeAt_0 rfl (lv_at hl 1 rfl) ?_
  refine lv_if_lt (tgt := 30) hx hb dX7_nodeAt_1 (by decide) (fun c_1 => ?_) (fun c_1 => ?_)
  · refine lv_null hx hb dX7_nodeAt_30 ?_
    exact W.aret (v := .null) hx hb hr (Or.inl ⟨_, rfl⟩) (Or.inl rfl) (fun t ht hW => ⟨none, rfl, rfl, ht⟩) (fun q h => nomatch h) dX7_nodeAt_31
  · refine lv_iload_n hx hb dX7_nodeAt_4 rfl (lv_at hl 1 rfl) ?_
    refine lv_aload_n hx hb dX7_nodeAt_5 rfl (lv_at hl 0 rfl) ?_
    refine va_get (D := (dC, dI)) (ci := 10) (v := .int 0) (C := RX7) (T := TX7) (N := 9) hx hb hts (by decide +kernel) hown hK hP 0 rfl rfl 7 (by decide) (hts (.fieldLink RX7 45 "Sequencepoint$Program" "nodeCount" "I") (by decide +kernel)) (fun _ h9 => h9) rfl dX7_nodeAt_6 ?_
    refine lv_icmp_ge (tgt := 30) hx hb dX7_nodeAt_9 (by decide) (fun c_2 => ?_) (fun c_2 => absurd (Int32.not_lt.mp c_1) c_2)
    refine lv_null hx hb dX7_nodeAt_30 ?_
    exact W.aret (v := .null) hx hb hr (Or.inl ⟨_, rfl⟩) (Or.inl rfl) (fun t ht hW => ⟨none, rfl, rfl, ht⟩) (fun q h => nomatch h) dX7_nodeAt_31

set_option maxHeartbeats 4000000 in
set_option maxRecDepth 100000 in
theorem z_X7_statementAt (l : Launch) (dC : Nat → ClassId) (dI : Nat → Nat → Nat) (pr : Nat) (av : Nat) (af : Nat) (ab : Nat) (an : Nat) (at_ : Nat) (i : Int32) : Met l yX7_statementAt wsX7_statementAt ({ frames := 0, cells := 0, slots := 0, locals := 0 }) (va_Pc [.ref pr, .int i] (fun U => va_P (dC, dI) vwCl [(pr, .inr (10, [.ref av, .ref af, .ref ab, .ref an, .ref at_, .int 0, .int 0, .int 0, .int 0]))] U.heap ∧ va_K (dC, dI) vwCl [] U)) (va_Sq (fun r => r = none)) 0 0 (fun _ => False) := by
  refine Met.ofW (cc := cX7_statementAt) (maxL := 2) (ret := (some (.object "Sequencepoint$Statement"))) (by decide) rfl ?_
  intro p e s m args below meth c s₁ B hml hv
  obtain ⟨rfl, hP, hK⟩ := hv
  have hx := B.exec
  have hb := B.bytes
  have hr := B.returns
  have hts := atoms_spec (ws := wsX7_statementAt) B.pre
  have hown : s.vm.findClass RX7 = some m.cls := findClass_of_methodNamed B.named
  have hlocks := B.notSynchronized
  have hl := lv_entry ([.ref pr, .int i]) (n := 2) (Nat.le_of_ble_eq_true rfl)
  rw [lg_entry_eq]
  generalize (lg_sl ([.ref pr, .int i]) ++ List.replicate (2 - (lg_sl ([.ref pr, .int i])).length) Slot.unset).toArray = ls at hl ⊢
  have hl : lv_has ls 2 [(0, .ref pr), (1, .int i)] := hl
  have hP : va_P (dC, dI) vwCl [(pr, .inr (10, [.ref av, .ref af, .ref ab, .ref an, .ref at_, .int 0, .int 0, .int 0, .int 0]))] s.heap := hP
  refine lv_iload_n hx hb dX7_statementAt_0 rfl (lv_at hl 1 rfl) ?_
  refine lv_if_lt (tgt := 30) hx hb dX7_statementAt_1 (by decide) (fun c_1 => ?_) (fun c_1 => ?_)
  · refine lv_null hx hb dX7_statementAt_30 ?_
    exact W.aret (v := .null) hx hb hr (Or.inl ⟨_, rfl⟩) (Or.inl rfl) (fun t ht hW => ⟨none, rfl, rfl, ht⟩) (fun q h => nomatch h) dX7_statementAt_31
  · refine lv_iload_n hx hb dX7_statementAt_4 rfl (lv_at hl 1 rfl) ?_
    refine lv_aload_n hx hb dX7_statementAt_5 rfl (lv_at hl 0 rfl) ?_
    refine va_get (D := (dC, dI)) (ci := 10) (v := .int 0) (C := RX7) (T := TX7) (N := 9) hx hb hts (by decide +kernel) hown hK hP 0 rfl rfl 8 (by decide) (hts (.fieldLink RX7 48 "Sequencepoint$Program" "statementCount" "I") (by decide +kernel)) (fun _ h9 => h9) rfl dX7_statementAt_6 ?_
    refine lv_icmp_ge (tgt := 30) hx hb dX7_statementAt_9 (by decide) (fun c_2 => ?_) (fun c_2 => absurd (Int32.not_lt.mp c_1) c_2)
    refine lv_null hx hb dX7_statementAt_30 ?_
    exact W.aret (v := .null) hx hb hr (Or.inl ⟨_, rfl⟩) (Or.inl rfl) (fun t ht hW => ⟨none, rfl, rfl, ht⟩) (fun q h => nomatch h) dX7_statementAt_31

set_option maxHeartbeats 4000000 in
set_option maxRecDepth 100000 in
theorem z_X11_typeOf (l : Launch) (hlt : l.stackTraces = false) (dC : Nat → ClassId) (dI : Nat → Nat → Nat) (x : Nat) (pr : Nat) (op : Nat) (ma : Nat) (la : Nat) (tr : Nat) (oc : Nat) (av : Nat) (af : Nat) (ab : Nat) (an : Nat) (at_ : Nat) (i : Int32) (sz : Nat) : vx_Met l yX11_typeOf wsX11_typeOf ({ frames := 6, cells := 1, slots := 6, locals := 100 }) (va_Pc [.ref x, .int i] (fun U => U.heap.size = sz ∧ va_P (dC, dI) vwCl [(x, .inr (13, [.ref pr, .ref op, .ref ma, .ref la, .ref tr, .ref oc, .long 0])), (pr, .inr (10, [.ref av, .ref af, .ref ab, .ref an, .ref at_, .int 0, .int 0, .int 0, .int 0]))] U.heap ∧ va_K (dC, dI) vwCl [] U ∧ va_D (fun _ => True) [(x, .inr (13, [.ref pr, .ref op, .ref ma, .ref la, .ref tr, .ref oc, .long 0])), (pr, .inr (10, [.ref av, .ref af, .ref ab, .ref an, .ref at_, .int 0, .int 0, .int 0, .int 0]))] ∧ xw (va_A [(x, .inr (13, [.ref pr, .ref op, .ref ma, .ref la, .ref tr, .ref oc, .long 0])), (pr, .inr (10, [.ref av, .ref af, .ref ab, .ref an, .ref at_, .int 0, .int 0, .int 0, .int 0]))] sz) U U.heap)) (va_Qi (fun (r : Int32) (_ : Unit) => "java/lang/IndexOutOfBoundsException" = "" ∧ True) (fun _ t => True) (va_A [(x, .inr (13, [.ref pr, .ref op, .ref ma, .ref la, .ref tr, .ref oc, .long 0])), (pr, .inr (10, [.ref av, .ref af, .ref ab, .ref an, .ref at_, .int 0, .int 0, .int 0, .int 0]))] sz)) (vx_X (fun _ : Unit => True) (fun E _ _ => E = "java/lang/IndexOutOfBoundsException") (va_A [(x, .inr (13, [.ref pr, .ref op, .ref ma, .ref la, .ref tr, .ref oc, .long 0])), (pr, .inr (10, [.ref av, .ref af, .ref ab, .ref an, .ref at_, .int 0, .int 0, .int 0, .int 0]))] sz)) 1 6 (va_A [(x, .inr (13, [.ref pr, .ref op, .ref ma, .ref la, .ref tr, .ref oc, .long 0])), (pr, .inr (10, [.ref av, .ref af, .ref ab, .ref an, .ref at_, .int 0, .int 0, .int 0, .int 0]))] sz) := by
  refine vx_ofW (cc := cX11_typeOf) (maxL := 3) (ret := (some .int)) (by decide +kernel) rfl ?_
  intro p e s m args below meth c s₁ B hml hno hv
  obtain ⟨rfl, hsz, hP, hK, hD0, hX⟩ := hv
  have hx := B.exec
  have hb := B.bytes
  have hr := B.returns
  have hts := atoms_spec (ws := wsX11_typeOf) B.pre
  have hown : s.vm.findClass RX11 = some m.cls := findClass_of_methodNamed B.named
  have hlocks := B.notSynchronized
  subst hsz
  have hD := hD0.self (sz := s.heap.size)
  generalize hAe : va_A [(x, .inr (13, [.ref pr, .ref op, .ref ma, .ref la, .ref tr, .ref oc, .long 0])), (pr, .inr (10, [.ref av, .ref af, .ref ab, .ref an, .ref at_, .int 0, .int 0, .int 0, .int 0]))] s.heap.size = A at hD hX ⊢
  have hA : ∀ q : Nat, s.heap.size ≤ q → A q := fun q h => by rw [← hAe]; exact Or.inr h
  have hS : va_S A s.heap s.heap [] := va_S.rf
  have hP : va_P (dC, dI) vwCl [(x, .inr (13, [.ref pr, .ref op, .ref ma, .ref la, .ref tr, .ref oc, .long 0])), (pr, .inr (10, [.ref av, .ref af, .ref ab, .ref an, .ref at_, .int 0, .int 0, .int 0, .int 0]))] s.heap := hP
  have hl := lv_entry ([.ref x, .int i]) (n := 3) (Nat.le_of_ble_eq_true rfl)
  rw [lg_entry_eq]
  generalize (lg_sl ([.ref x, .int i]) ++ List.replicate (3 - (lg_sl ([.ref x, .int i])).length) Slot.unset).toArray = ls at hl ⊢
  have hl : lv_has ls 3 [(0, .ref x), (1, .int i)] := hl
  refine lv_aload_n hx hb dX11_typeOf_0 rfl (lv_at hl 0 rfl) ?_
  refine va_get (D := (dC, dI)) (ci := 13) (v := .ref pr) (C := RX11) (T := TX11) (N := 7) hx hb hts (by decide +kernel) hown hK hP 0 rfl rfl 0 (by decide) (hts (.fieldLink RX11 10 "Sequencepoint" "program" "LSequencepoint$Program;") (by decide +kernel)) (fun _ h9 => h9) rfl dX11_typeOf_1 ?_
  refine lv_iload_n hx hb dX11_typeOf_4 rfl (lv_at hl 1 rfl) ?_
  have hPc := hP.sub (ws' := [(pr, .inr (10, [.ref av, .ref af, .ref ab, .ref an, .ref at_, .int 0, .int 0, .int 0, .int 0]))]) [1] rfl
  have hKc := hK.sub (tys' := []) [] rfl
  refine va_csq (va_Run.run (va_runV (As := [.int i]) (rest := []) ⟨hx, hb, hml, hown, hts⟩ (z_X7_nodeAt l dC dI pr av af ab an at_ i) (cwV 1 hts gX11_typeOf_X7_nodeAt rfl rfl rfl (by decide +kernel) ⟨Nat.le_of_ble_eq_true rfl, Nat.le_of_ble_eq_true rfl⟩) ⟨fun a U g mk q => by obtain ⟨q0, qP, qK⟩ := q; exact ⟨q0, qP, va_K.moved (u := U) (U := U.calling g mk a) (Vm.Alike.refl U.vm) qK⟩, va_recv hKc hPc (ci := 10) (q0 := 0) rfl rfl, fun U hU hW => ⟨rfl, by rw [hU]; exact hPc, va_K.moved hW.alike hKc⟩⟩ rfl rfl hl.1 rfl (lv_room (Nat.le_of_ble_eq_true rfl)) dX11_typeOf_5 ⟨(Nat.le_of_ble_eq_true rfl), (Nat.le_of_ble_eq_true rfl)⟩)) (fun r_1 hr_1 => ?_)
  subst hr_1
  refine W.eq (g2 := F0 m 8 ls [.null]) rfl ?_
  refine lv_astore_nN (lv' := [(2, .null), (0, .ref x), (1, .int i)]) hx hb dX11_typeOf_8 rfl hl (by decide) rfl (fun ls hl => ?_)
  refine lv_aload_nN hx hb dX11_typeOf_9 rfl (lv_at hl 0 rfl) ?_
  refine lv_ifnonnullN hx hb dX11_typeOf_10 ?_
  exact xw_throw (E := "java/lang/IndexOutOfBoundsException") (text := "no such node") (ik := 86) (is := 190) (ic := 90) hx hb hlt hown (by decide +kernel) (by decide +kernel) (hts (.classLink RX11 86 "java/lang/IndexOutOfBoundsException") (by decide +kernel)) (hts (.initialized "java/lang/IndexOutOfBoundsException") (by decide +kernel)) (by decide +kernel) (fun w h => hts w (List.mem_cons_of_mem _ (List.mem_append_right _ h))) xw_bIOB xw_gIOB hX hS (by rw [hml]; exact hl.1) dX11_typeOf_13 dX11_typeOf_16 dX11_typeOf_17 dX11_typeOf_19 dX11_typeOf_22 hno (Nat.le_of_ble_eq_true rfl) (Nat.le_of_ble_eq_true rfl) (Nat.le_of_ble_eq_true rfl) (Nat.le_of_ble_eq_true rfl) hlocks (fun t h1 h2 => ⟨(), trivial, by simp only [id], h2⟩) hS.2.2 (Nat.le_of_ble_eq_true rfl) (Nat.le_of_ble_eq_true rfl)
