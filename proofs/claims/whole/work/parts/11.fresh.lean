def wz_X7_variableAt : List Cond := .code yX7_variableAt cX7_variableAt 2 (some (.object "Sequencepoint$Variable")) :: ([.fieldLink RX7 38 "Sequencepoint$Program" "variableCount" "I"] ++ (wsX70 ++ []))
set_option maxHeartbeats 4000000 in
set_option maxRecDepth 100000 in
theorem z_X7_variableAt (l : Launch) (dC : Nat → ClassId) (dI : Nat → Nat → Nat) (pr : Nat) (av : Nat) (af : Nat) (ab : Nat) (an : Nat) (at_ : Nat) (i : Int32) : Met l yX7_variableAt wz_X7_variableAt ({ frames := 0, cells := 0, slots := 0, locals := 0 }) (va_Pc [.ref pr, .int i] (fun U => va_P (dC, dI) vwCl [(pr, .inr (10, [.ref av, .ref af, .ref ab, .ref an, .ref at_, .int 0, .int 0, .int 0, .int 0]))] U.heap ∧ va_K (dC, dI) vwCl [] U)) (va_Sq (fun r => r = none)) 0 0 (fun _ => False) := by
  refine Met.ofW (cc := cX7_variableAt) (maxL := 2) (ret := (some (.object "Sequencepoint$Variable"))) (by decide) rfl ?_
  intro p e s m args below meth c s₁ B hml hv
  obtain ⟨rfl, hP, hK⟩ := hv
  have hx := B.exec
  have hb := B.bytes
  have hr := B.returns
  have hts := atoms_spec (ws := wz_X7_variableAt) B.pre
  have hown : s.vm.findClass RX7 = some m.cls := findClass_of_methodNamed B.named
  have hlocks := B.notSynchronized
  have hl := lv_entry ([.ref pr, .int i]) (n := 2) (Nat.le_of_ble_eq_true rfl)
  rw [lg_entry_eq]
  generalize (lg_sl ([.ref pr, .int i]) ++ List.replicate (2 - (lg_sl ([.ref pr, .int i])).length) Slot.unset).toArray = ls at hl ⊢
  have hl : lv_has ls 2 [(0, .ref pr), (1, .int i)] := hl
  have hP : va_P (dC, dI) vwCl [(pr, .inr (10, [.ref av, .ref af, .ref ab, .ref an, .ref at_, .int 0, .int 0, .int 0, .int 0]))] s.heap := hP
  refine lv_iload_n hx hb dX7_variableAt_0 rfl (lv_at hl 1 rfl) ?_
  refine lv_if_lt (tgt := 30) hx hb dX7_variableAt_1 (by decide) (fun c_1 => ?_) (fun c_1 => ?_)
  · refine lv_null hx hb dX7_variableAt_30 ?_
    exact W.aret (v := .null) hx hb hr (Or.inl ⟨_, rfl⟩) (Or.inl rfl) (fun t ht hW => ⟨none, rfl, rfl, ht⟩) (fun q h => nomatch h) dX7_variableAt_31
  · refine lv_iload_n hx hb dX7_variableAt_4 rfl (lv_at hl 1 rfl) ?_
    refine lv_aload_n hx hb dX7_variableAt_5 rfl (lv_at hl 0 rfl) ?_
    refine va_get (D := (dC, dI)) (ci := 10) (v := .int 0) (C := RX7) (T := TX7) (N := 9) hx hb hts (fun w h => (List.mem_cons_of_mem _ (List.mem_append_right _ (List.mem_append_left _ h)))) hown hK hP 0 rfl rfl 5 (by decide) (hts (.fieldLink RX7 38 "Sequencepoint$Program" "variableCount" "I") (by decide +kernel)) (fun _ h9 => h9) rfl dX7_variableAt_6 ?_
    refine lv_icmp_ge (tgt := 30) hx hb dX7_variableAt_9 (by decide) (fun c_2 => ?_) (fun c_2 => absurd (Int32.not_lt.mp c_1) c_2)
    refine lv_null hx hb dX7_variableAt_30 ?_
    exact W.aret (v := .null) hx hb hr (Or.inl ⟨_, rfl⟩) (Or.inl rfl) (fun t ht hW => ⟨none, rfl, rfl, ht⟩) (fun q h => nomatch h) dX7_variableAt_31

def wz_X7_functionAt : List Cond := .code yX7_functionAt cX7_functionAt 2 (some (.object "Sequencepoint$Function")) :: ([.fieldLink RX7 42 "Sequencepoint$Program" "functionCount" "I"] ++ (wsX70 ++ []))
set_option maxHeartbeats 4000000 in
set_option maxRecDepth 100000 in
theorem z_X7_functionAt (l : Launch) (dC : Nat → ClassId) (dI : Nat → Nat → Nat) (pr : Nat) (av : Nat) (af : Nat) (ab : Nat) (an : Nat) (at_ : Nat) (i : Int32) : Met l yX7_functionAt wz_X7_functionAt ({ frames := 0, cells := 0, slots := 0, locals := 0 }) (va_Pc [.ref pr, .int i] (fun U => va_P (dC, dI) vwCl [(pr, .inr (10, [.ref av, .ref af, .ref ab, .ref an, .ref at_, .int 0, .int 0, .int 0, .int 0]))] U.heap ∧ va_K (dC, dI) vwCl [] U)) (va_Sq (fun r => r = none)) 0 0 (fun _ => False) := by
  refine Met.ofW (cc := cX7_functionAt) (maxL := 2) (ret := (some (.object "Sequencepoint$Function"))) (by decide) rfl ?_
  intro p e s m args below meth c s₁ B hml hv
  obtain ⟨rfl, hP, hK⟩ := hv
  have hx := B.exec
  have hb := B.bytes
  have hr := B.returns
  have hts := atoms_spec (ws := wz_X7_functionAt) B.pre
  have hown : s.vm.findClass RX7 = some m.cls := findClass_of_methodNamed B.named
  have hlocks := B.notSynchronized
  have hl := lv_entry ([.ref pr, .int i]) (n := 2) (Nat.le_of_ble_eq_true rfl)
  rw [lg_entry_eq]
  generalize (lg_sl ([.ref pr, .int i]) ++ List.replicate (2 - (lg_sl ([.ref pr, .int i])).length) Slot.unset).toArray = ls at hl ⊢
  have hl : lv_has ls 2 [(0, .ref pr), (1, .int i)] := hl
  have hP : va_P (dC, dI) vwCl [(pr, .inr (10, [.ref av, .ref af, .ref ab, .ref an, .ref at_, .int 0, .int 0, .int 0, .int 0]))] s.heap := hP
  refine lv_iload_n hx hb dX7_functionAt_0 rfl (lv_at hl 1 rfl) ?_
  refine lv_if_lt (tgt := 30) hx hb dX7_functionAt_1 (by decide) (fun c_1 => ?_) (fun c_1 => ?_)
  · refine lv_null hx hb dX7_functionAt_30 ?_
    exact W.aret (v := .null) hx hb hr (Or.inl ⟨_, rfl⟩) (Or.inl rfl) (fun t ht hW => ⟨none, rfl, rfl, ht⟩) (fun q h => nomatch h) dX7_functionAt_31
  · refine lv_iload_n hx hb dX7_functionAt_4 rfl (lv_at hl 1 rfl) ?_
    refine lv_aload_n hx hb dX7_functionAt_5 rfl (lv_at hl 0 rfl) ?_
    refine va_get (D := (dC, dI)) (ci := 10) (v := .int 0) (C := RX7) (T := TX7) (N := 9) hx hb hts (fun w h => (List.mem_cons_of_mem _ (List.mem_append_right _ (List.mem_append_left _ h)))) hown hK hP 0 rfl rfl 6 (by decide) (hts (.fieldLink RX7 42 "Sequencepoint$Program" "functionCount" "I") (by decide +kernel)) (fun _ h9 => h9) rfl dX7_functionAt_6 ?_
    refine lv_icmp_ge (tgt := 30) hx hb dX7_functionAt_9 (by decide) (fun c_2 => ?_) (fun c_2 => absurd (Int32.not_lt.mp c_1) c_2)
    refine lv_null hx hb dX7_functionAt_30 ?_
    exact W.aret (v := .null) hx hb hr (Or.inl ⟨_, rfl⟩) (Or.inl rfl) (fun t ht hW => ⟨none, rfl, rfl, ht⟩) (fun q h => nomatch h) dX7_functionAt_31

def wz_X7_nodeAt : List Cond := .code yX7_nodeAt cX7_nodeAt 2 (some (.object "Sequencepoint$Node")) :: ([.fieldLink RX7 45 "Sequencepoint$Program" "nodeCount" "I"] ++ (wsX70 ++ []))
set_option maxHeartbeats 4000000 in
set_option maxRecDepth 100000 in
theorem z_X7_nodeAt (l : Launch) (dC : Nat → ClassId) (dI : Nat → Nat → Nat) (pr : Nat) (av : Nat) (af : Nat) (ab : Nat) (an : Nat) (at_ : Nat) (i : Int32) : Met l yX7_nodeAt wz_X7_nodeAt ({ frames := 0, cells := 0, slots := 0, locals := 0 }) (va_Pc [.ref pr, .int i] (fun U => va_P (dC, dI) vwCl [(pr, .inr (10, [.ref av, .ref af, .ref ab, .ref an, .ref at_, .int 0, .int 0, .int 0, .int 0]))] U.heap ∧ va_K (dC, dI) vwCl [] U)) (va_Sq (fun r => r = none)) 0 0 (fun _ => False) := by
  refine Met.ofW (cc := cX7_nodeAt) (maxL := 2) (ret := (some (.object "Sequencepoint$Node"))) (by decide) rfl ?_
  intro p e s m args below meth c s₁ B hml hv
  obtain ⟨rfl, hP, hK⟩ := hv
  have hx := B.exec
  have hb := B.bytes
  have hr := B.returns
  have hts := atoms_spec (ws := wz_X7_nodeAt) B.pre
  have hown : s.vm.findClass RX7 = some m.cls := findClass_of_methodNamed B.named
  have hlocks := B.notSynchronized
  have hl := lv_entry ([.ref pr, .int i]) (n := 2) (Nat.le_of_ble_eq_true rfl)
  rw [lg_entry_eq]
  generalize (lg_sl ([.ref pr, .int i]) ++ List.replicate (2 - (lg_sl ([.ref pr, .int i])).length) Slot.unset).toArray = ls at hl ⊢
  have hl : lv_has ls 2 [(0, .ref pr), (1, .int i)] := hl
  have hP : va_P (dC, dI) vwCl [(pr, .inr (10, [.ref av, .ref af, .ref ab, .ref an, .ref at_, .int 0, .int 0, .int 0, .int 0]))] s.heap := hP
  refine lv_iload_n hx hb dX7_nodeAt_0 rfl (lv_at hl 1 rfl) ?_
  refine lv_if_lt (tgt := 30) hx hb dX7_nodeAt_1 (by decide) (fun c_1 => ?_) (fun c_1 => ?_)
  · refine lv_null hx hb dX7_nodeAt_30 ?_
    exact W.aret (v := .null) hx hb hr (Or.inl ⟨_, rfl⟩) (Or.inl rfl) (fun t ht hW => ⟨none, rfl, rfl, ht⟩) (fun q h => nomatch h) dX7_nodeAt_31
  · refine lv_iload_n hx hb dX7_nodeAt_4 rfl (lv_at hl 1 rfl) ?_
    refine lv_aload_n hx hb dX7_nodeAt_5 rfl (lv_at hl 0 rfl) ?_
    refine va_get (D := (dC, dI)) (ci := 10) (v := .int 0) (C := RX7) (T := TX7) (N := 9) hx hb hts (fun w h => (List.mem_cons_of_mem _ (List.mem_append_right _ (List.mem_append_left _ h)))) hown hK hP 0 rfl rfl 7 (by decide) (hts (.fieldLink RX7 45 "Sequencepoint$Program" "nodeCount" "I") (by decide +kernel)) (fun _ h9 => h9) rfl dX7_nodeAt_6 ?_
    refine lv_icmp_ge (tgt := 30) hx hb dX7_nodeAt_9 (by decide) (fun c_2 => ?_) (fun c_2 => absurd (Int32.not_lt.mp c_1) c_2)
    refine lv_null hx hb dX7_nodeAt_30 ?_
    exact W.aret (v := .null) hx hb hr (Or.inl ⟨_, rfl⟩) (Or.inl rfl) (fun t ht hW => ⟨none, rfl, rfl, ht⟩) (fun q h => nomatch h) dX7_nodeAt_31

def wz_X7_statementAt : List Cond := .code yX7_statementAt cX7_statementAt 2 (some (.object "Sequencepoint$Statement")) :: ([.fieldLink RX7 48 "Sequencepoint$Program" "statementCount" "I"] ++ (wsX70 ++ []))
set_option maxHeartbeats 4000000 in
set_option maxRecDepth 100000 in
theorem z_X7_statementAt (l : Launch) (dC : Nat → ClassId) (dI : Nat → Nat → Nat) (pr : Nat) (av : Nat) (af : Nat) (ab : Nat) (an : Nat) (at_ : Nat) (i : Int32) : Met l yX7_statementAt wz_X7_statementAt ({ frames := 0, cells := 0, slots := 0, locals := 0 }) (va_Pc [.ref pr, .int i] (fun U => va_P (dC, dI) vwCl [(pr, .inr (10, [.ref av, .ref af, .ref ab, .ref an, .ref at_, .int 0, .int 0, .int 0, .int 0]))] U.heap ∧ va_K (dC, dI) vwCl [] U)) (va_Sq (fun r => r = none)) 0 0 (fun _ => False) := by
  refine Met.ofW (cc := cX7_statementAt) (maxL := 2) (ret := (some (.object "Sequencepoint$Statement"))) (by decide) rfl ?_
  intro p e s m args below meth c s₁ B hml hv
  obtain ⟨rfl, hP, hK⟩ := hv
  have hx := B.exec
  have hb := B.bytes
  have hr := B.returns
  have hts := atoms_spec (ws := wz_X7_statementAt) B.pre
  have hown : s.vm.findClass RX7 = some m.cls := findClass_of_methodNamed B.named
  have hlocks := B.notSynchronized
  have hl := lv_entry ([.ref pr, .int i]) (n := 2) (Nat.le_of_ble_eq_true rfl)
  rw [lg_entry_eq]
  generalize (lg_sl ([.ref pr, .int i]) ++ List.replicate (2 - (lg_sl ([.ref pr, .int i])).length) Slot.unset).toArray = ls at hl ⊢
  have hl : lv_has ls 2 [(0, .ref pr), (1, .int i)] := hl
  have hP : va_P (dC, dI) vwCl [(pr, .inr (10, [.ref av, .ref af, .ref ab, .ref an, .ref at_, .int 0, .int 0, .int 0, .int 0]))] s.heap := hP
  refine lv_iload_n hx hb dX7_statementAt_0 rfl (lv_at hl 1 rfl) ?_
  refine lv_if_lt (tgt := 30) hx hb dX7_statementAt_1 (by decide) (fun c_1 => ?_) (fun c_1 => ?_)
  · refine lv_null hx hb dX7_statementAt_30 ?_
    exact W.aret (v := .null) hx hb hr (Or.inl ⟨_, rfl⟩) (Or.inl rfl) (fun t ht hW => ⟨none, rfl, rfl, ht⟩) (fun q h => nomatch h) dX7_statementAt_31
  · refine lv_iload_n hx hb dX7_statementAt_4 rfl (lv_at hl 1 rfl) ?_
    refine lv_aload_n hx hb dX7_statementAt_5 rfl (lv_at hl 0 rfl) ?_
    refine va_get (D := (dC, dI)) (ci := 10) (v := .int 0) (C := RX7) (T := TX7) (N := 9) hx hb hts (fun w h => (List.mem_cons_of_mem _ (List.mem_append_right _ (List.mem_append_left _ h)))) hown hK hP 0 rfl rfl 8 (by decide) (hts (.fieldLink RX7 48 "Sequencepoint$Program" "statementCount" "I") (by decide +kernel)) (fun _ h9 => h9) rfl dX7_statementAt_6 ?_
    refine lv_icmp_ge (tgt := 30) hx hb dX7_statementAt_9 (by decide) (fun c_2 => ?_) (fun c_2 => absurd (Int32.not_lt.mp c_1) c_2)
    refine lv_null hx hb dX7_statementAt_30 ?_
    exact W.aret (v := .null) hx hb hr (Or.inl ⟨_, rfl⟩) (Or.inl rfl) (fun t ht hW => ⟨none, rfl, rfl, ht⟩) (fun q h => nomatch h) dX7_statementAt_31

def wz_X7_canStart : List Cond := .code yX7_canStart cX7_canStart 2 (some .boolean) :: ([] ++ ((wsV RX7 102 RX7 yX7_functionAt wz_X7_functionAt) ++ []))
set_option maxHeartbeats 4000000 in
set_option maxRecDepth 100000 in
theorem z_X7_canStart (l : Launch) (dC : Nat → ClassId) (dI : Nat → Nat → Nat) (pr : Nat) (av : Nat) (af : Nat) (ab : Nat) (an : Nat) (at_ : Nat) : Met l yX7_canStart wz_X7_canStart ({ frames := 1, cells := 0, slots := 0, locals := 21 }) (va_Pc [.ref pr] (fun U => va_P (dC, dI) vwCl [(pr, .inr (10, [.ref av, .ref af, .ref ab, .ref an, .ref at_, .int 0, .int 0, .int 0, .int 0]))] U.heap ∧ va_K (dC, dI) vwCl [] U)) (vp_Si (fun r => r = 0)) 0 0 (fun _ => False) := by
  refine Met.ofW (cc := cX7_canStart) (maxL := 2) (ret := (some .boolean)) (by decide) rfl ?_
  intro p e s m args below meth c s₁ B hml hv
  obtain ⟨rfl, hP, hK⟩ := hv
  have hx := B.exec
  have hb := B.bytes
  have hr := B.returns
  have hts := atoms_spec (ws := wz_X7_canStart) B.pre
  have hown : s.vm.findClass RX7 = some m.cls := findClass_of_methodNamed B.named
  have hlocks := B.notSynchronized
  have hl := lv_entry ([.ref pr]) (n := 2) (Nat.le_of_ble_eq_true rfl)
  rw [lg_entry_eq]
  generalize (lg_sl ([.ref pr]) ++ List.replicate (2 - (lg_sl ([.ref pr])).length) Slot.unset).toArray = ls at hl ⊢
  have hl : lv_has ls 2 [(0, .ref pr)] := hl
  have hP : va_P (dC, dI) vwCl [(pr, .inr (10, [.ref av, .ref af, .ref ab, .ref an, .ref at_, .int 0, .int 0, .int 0, .int 0]))] s.heap := hP
  refine lv_aload_n hx hb dX7_canStart_0 rfl (lv_at hl 0 rfl) ?_
  refine lv_iconst (v := 0) hx hb dX7_canStart_1 (by decide) ?_
  have hPc := hP.sub (ws' := [(pr, .inr (10, [.ref av, .ref af, .ref ab, .ref an, .ref at_, .int 0, .int 0, .int 0, .int 0]))]) [0] rfl
  have hKc := hK.sub (tys' := []) [] rfl
  refine va_csq (va_Run.run (va_runV (As := [.int 0]) (rest := []) ⟨hx, hb, hml, hown, hts⟩ (z_X7_functionAt l dC dI pr av af ab an at_ 0) (cwV 1 hts (goodIn_sub (ws := wsV RX7 102 RX7 yX7_functionAt wz_X7_functionAt) (fun w h => (List.mem_cons_of_mem _ (List.mem_append_right _ (List.mem_append_left _ h)))) (by decide +kernel)) rfl rfl rfl (by decide +kernel) ⟨Nat.le_of_ble_eq_true rfl, Nat.le_of_ble_eq_true rfl⟩) ⟨fun a U g mk q => by obtain ⟨q0, qP, qK⟩ := q; exact ⟨q0, qP, va_K.moved (u := U) (U := U.calling g mk a) (Vm.Alike.refl U.vm) qK⟩, va_recv hKc hPc (ci := 10) (q0 := 0) rfl rfl, fun U hU hW => ⟨rfl, by rw [hU]; exact hPc, va_K.moved hW.alike hKc⟩⟩ rfl rfl hl.1 rfl (lv_room (Nat.le_of_ble_eq_true rfl)) dX7_canStart_2 ⟨(Nat.le_of_ble_eq_true rfl), (Nat.le_of_ble_eq_true rfl)⟩)) (fun r_1 hr_1 => ?_)
  subst hr_1
  refine W.eq (g2 := F0 m 5 ls [.null]) rfl ?_
  refine lv_astore_nN (lv' := [(1, .null), (0, .ref pr)]) hx hb dX7_canStart_5 rfl hl (by decide) rfl (fun ls hl => ?_)
  refine lv_aload_nN hx hb dX7_canStart_6 rfl (lv_at hl 0 rfl) ?_
  refine lv_ifnullN (tgt := 30) hx hb dX7_canStart_7 (by decide) ?_
  refine lv_iconst (v := 0) hx hb dX7_canStart_30 (by decide) ?_
  exact W.zret (v := 0) hx hb hr (by decide) (fun t ht hW => ⟨0, rfl, rfl, ht⟩) (fun q h => nomatch h) dX7_canStart_31

def wz_X11_typeOf : List Cond := .code yX11_typeOf cX11_typeOf 3 (some .int) :: ([.fieldLink RX11 10 "Sequencepoint" "program" "LSequencepoint$Program;", .classLink RX11 86 "java/lang/IndexOutOfBoundsException", .initialized "java/lang/IndexOutOfBoundsException"] ++ (wsX110 ++ ((wsV RX11 186 RX7 yX7_nodeAt wz_X7_nodeAt) ++ (((vx_atS RX11 90 "java/lang/IndexOutOfBoundsException" xw_N).filter goodWord) ++ []))))
set_option maxHeartbeats 4000000 in
set_option maxRecDepth 100000 in
theorem z_X11_typeOf (l : Launch) (hlt : l.stackTraces = false) (dC : Nat → ClassId) (dI : Nat → Nat → Nat) (x : Nat) (pr : Nat) (op : Nat) (ma : Nat) (la : Nat) (tr : Nat) (oc : Nat) (av : Nat) (af : Nat) (ab : Nat) (an : Nat) (at_ : Nat) (i : Int32) (sz : Nat) : vx_Met l yX11_typeOf wz_X11_typeOf ({ frames := 6, cells := 1, slots := 6, locals := 100 }) (va_Pc [.ref x, .int i] (fun U => U.heap.size = sz ∧ va_P (dC, dI) vwCl [(x, .inr (13, [.ref pr, .ref op, .ref ma, .ref la, .ref tr, .ref oc, .long 0])), (pr, .inr (10, [.ref av, .ref af, .ref ab, .ref an, .ref at_, .int 0, .int 0, .int 0, .int 0]))] U.heap ∧ va_K (dC, dI) vwCl [] U ∧ va_D (fun _ => True) [(x, .inr (13, [.ref pr, .ref op, .ref ma, .ref la, .ref tr, .ref oc, .long 0])), (pr, .inr (10, [.ref av, .ref af, .ref ab, .ref an, .ref at_, .int 0, .int 0, .int 0, .int 0]))] ∧ xw (va_A [(x, .inr (13, [.ref pr, .ref op, .ref ma, .ref la, .ref tr, .ref oc, .long 0])), (pr, .inr (10, [.ref av, .ref af, .ref ab, .ref an, .ref at_, .int 0, .int 0, .int 0, .int 0]))] sz) U U.heap)) (va_Qi (fun (r : Int32) (_ : Unit) => "java/lang/IndexOutOfBoundsException" = "" ∧ True) (fun _ t => True) (va_A [(x, .inr (13, [.ref pr, .ref op, .ref ma, .ref la, .ref tr, .ref oc, .long 0])), (pr, .inr (10, [.ref av, .ref af, .ref ab, .ref an, .ref at_, .int 0, .int 0, .int 0, .int 0]))] sz)) (vx_X (fun _ : Unit => True) (fun E _ _ => E = "java/lang/IndexOutOfBoundsException") (va_A [(x, .inr (13, [.ref pr, .ref op, .ref ma, .ref la, .ref tr, .ref oc, .long 0])), (pr, .inr (10, [.ref av, .ref af, .ref ab, .ref an, .ref at_, .int 0, .int 0, .int 0, .int 0]))] sz)) 1 6 (va_A [(x, .inr (13, [.ref pr, .ref op, .ref ma, .ref la, .ref tr, .ref oc, .long 0])), (pr, .inr (10, [.ref av, .ref af, .ref ab, .ref an, .ref at_, .int 0, .int 0, .int 0, .int 0]))] sz) := by
  refine vx_ofW (cc := cX11_typeOf) (maxL := 3) (ret := (some .int)) (by decide +kernel) rfl ?_
  intro p e s m args below meth c s₁ B hml hno hv
  obtain ⟨rfl, hsz, hP, hK, hD0, hX⟩ := hv
  have hx := B.exec
  have hb := B.bytes
  have hr := B.returns
  have hts := atoms_spec (ws := wz_X11_typeOf) B.pre
  have hown : s.vm.findClass RX11 = some m.cls := findClass_of_methodNamed B.named
  have hlocks := B.notSynchronized
  subst hsz
  have hD := hD0.self (sz := s.heap.size)
  generalize hAe : va_A [(x, .inr (13, [.ref pr, .ref op, .ref ma, .ref la, .ref tr, .ref oc, .long 0])), (pr, .inr (10, [.ref av, .ref af, .ref ab, .ref an, .ref at_, .int 0, .int 0, .int 0, .int 0]))] s.heap.size = A at hD hX ⊢
  have hA : ∀ q : Nat, s.heap.size ≤ q → A q := fun q h => by rw [← hAe]; exact Or.inr h
  have hS : va_S A s.heap s.heap [] := va_S.rf
  have hP : va_P (dC, dI) vwCl [(x, .inr (13, [.ref pr, .ref op, .ref ma, .ref la, .ref tr, .ref oc, .long 0])), (pr, .inr (10, [.ref av, .ref af, .ref ab, .ref an, .ref at_, .int 0, .int 0, .int 0, .int 0]))] s.heap := hP
  have hl := lv_entry ([.ref x, .int i]) (n := 3) (Nat.le_of_ble_eq_true rfl)
  rw [lg_entry_eq]
  generalize (lg_sl ([.ref x, .int i]) ++ List.replicate (3 - (lg_sl ([.ref x, .int i])).length) Slot.unset).toArray = ls at hl ⊢
  have hl : lv_has ls 3 [(0, .ref x), (1, .int i)] := hl
  refine lv_aload_n hx hb dX11_typeOf_0 rfl (lv_at hl 0 rfl) ?_
  refine va_get (D := (dC, dI)) (ci := 13) (v := .ref pr) (C := RX11) (T := TX11) (N := 7) hx hb hts (fun w h => (List.mem_cons_of_mem _ (List.mem_append_right _ (List.mem_append_left _ h)))) hown hK hP 0 rfl rfl 0 (by decide) (hts (.fieldLink RX11 10 "Sequencepoint" "program" "LSequencepoint$Program;") (by decide +kernel)) (fun _ h9 => h9) rfl dX11_typeOf_1 ?_
  refine lv_iload_n hx hb dX11_typeOf_4 rfl (lv_at hl 1 rfl) ?_
  have hPc := hP.sub (ws' := [(pr, .inr (10, [.ref av, .ref af, .ref ab, .ref an, .ref at_, .int 0, .int 0, .int 0, .int 0]))]) [1] rfl
  have hKc := hK.sub (tys' := []) [] rfl
  refine va_csq (va_Run.run (va_runV (As := [.int i]) (rest := []) ⟨hx, hb, hml, hown, hts⟩ (z_X7_nodeAt l dC dI pr av af ab an at_ i) (cwV 1 hts (goodIn_sub (ws := wsV RX11 186 RX7 yX7_nodeAt wz_X7_nodeAt) (fun w h => (List.mem_cons_of_mem _ (List.mem_append_right _ (List.mem_append_right _ (List.mem_append_left _ h))))) (by decide +kernel)) rfl rfl rfl (by decide +kernel) ⟨Nat.le_of_ble_eq_true rfl, Nat.le_of_ble_eq_true rfl⟩) ⟨fun a U g mk q => by obtain ⟨q0, qP, qK⟩ := q; exact ⟨q0, qP, va_K.moved (u := U) (U := U.calling g mk a) (Vm.Alike.refl U.vm) qK⟩, va_recv hKc hPc (ci := 10) (q0 := 0) rfl rfl, fun U hU hW => ⟨rfl, by rw [hU]; exact hPc, va_K.moved hW.alike hKc⟩⟩ rfl rfl hl.1 rfl (lv_room (Nat.le_of_ble_eq_true rfl)) dX11_typeOf_5 ⟨(Nat.le_of_ble_eq_true rfl), (Nat.le_of_ble_eq_true rfl)⟩)) (fun r_1 hr_1 => ?_)
  subst hr_1
  refine W.eq (g2 := F0 m 8 ls [.null]) rfl ?_
  refine lv_astore_nN (lv' := [(2, .null), (0, .ref x), (1, .int i)]) hx hb dX11_typeOf_8 rfl hl (by decide) rfl (fun ls hl => ?_)
  refine lv_aload_nN hx hb dX11_typeOf_9 rfl (lv_at hl 0 rfl) ?_
  refine lv_ifnonnullN hx hb dX11_typeOf_10 ?_
  exact xw_throw (E := "java/lang/IndexOutOfBoundsException") (text := "no such node") (ik := 86) (is := 190) (ic := 90) hx hb hlt hown (by decide +kernel) (by decide +kernel) (hts (.classLink RX11 86 "java/lang/IndexOutOfBoundsException") (by decide +kernel)) (hts (.initialized "java/lang/IndexOutOfBoundsException") (by decide +kernel)) (by decide +kernel) (fun w h => hts w (List.mem_cons_of_mem _ (List.mem_append_right _ (List.mem_append_right _ (List.mem_append_right _ (List.mem_append_left _ h)))))) xw_bIOB xw_gIOB hX hS (by rw [hml]; exact hl.1) dX11_typeOf_13 dX11_typeOf_16 dX11_typeOf_17 dX11_typeOf_19 dX11_typeOf_22 hno (Nat.le_of_ble_eq_true rfl) (Nat.le_of_ble_eq_true rfl) (Nat.le_of_ble_eq_true rfl) (Nat.le_of_ble_eq_true rfl) hlocks (fun t h1 h2 => ⟨(), trivial, rfl, h2⟩) hS.2.2 (Nat.le_of_ble_eq_true rfl) (Nat.le_of_ble_eq_true rfl)

def wz_X11_setBody : List Cond := .code yX11_setBody cX11_setBody 5 (some .int) :: ([.fieldLink RX11 10 "Sequencepoint" "program" "LSequencepoint$Program;", .classLink RX11 86 "java/lang/IndexOutOfBoundsException", .initialized "java/lang/IndexOutOfBoundsException"] ++ (wsX110 ++ ((wsV RX11 122 RX7 yX7_functionAt wz_X7_functionAt) ++ ((wsV RX11 126 RX7 yX7_statementAt wz_X7_statementAt) ++ (((vx_atS RX11 90 "java/lang/IndexOutOfBoundsException" xw_N).filter goodWord) ++ [])))))
set_option maxHeartbeats 4000000 in
set_option maxRecDepth 100000 in
theorem z_X11_setBody (l : Launch) (hlt : l.stackTraces = false) (dC : Nat → ClassId) (dI : Nat → Nat → Nat) (x : Nat) (pr : Nat) (op : Nat) (ma : Nat) (la : Nat) (tr : Nat) (oc : Nat) (av : Nat) (af : Nat) (ab : Nat) (an : Nat) (at_ : Nat) (i : Int32) (j : Int32) (sz : Nat) : vx_Met l yX11_setBody wz_X11_setBody ({ frames := 6, cells := 1, slots := 6, locals := 100 }) (va_Pc [.ref x, .int i, .int j] (fun U => U.heap.size = sz ∧ va_P (dC, dI) vwCl [(x, .inr (13, [.ref pr, .ref op, .ref ma, .ref la, .ref tr, .ref oc, .long 0])), (pr, .inr (10, [.ref av, .ref af, .ref ab, .ref an, .ref at_, .int 0, .int 0, .int 0, .int 0]))] U.heap ∧ va_K (dC, dI) vwCl [] U ∧ va_D (fun _ => True) [(x, .inr (13, [.ref pr, .ref op, .ref ma, .ref la, .ref tr, .ref oc, .long 0])), (pr, .inr (10, [.ref av, .ref af, .ref ab, .ref an, .ref at_, .int 0, .int 0, .int 0, .int 0]))] ∧ xw (va_A [(x, .inr (13, [.ref pr, .ref op, .ref ma, .ref la, .ref tr, .ref oc, .long 0])), (pr, .inr (10, [.ref av, .ref af, .ref ab, .ref an, .ref at_, .int 0, .int 0, .int 0, .int 0]))] sz) U U.heap)) (va_Qi (fun (r : Int32) (_ : Unit) => "java/lang/IndexOutOfBoundsException" = "" ∧ True) (fun _ t => True) (va_A [(x, .inr (13, [.ref pr, .ref op, .ref ma, .ref la, .ref tr, .ref oc, .long 0])), (pr, .inr (10, [.ref av, .ref af, .ref ab, .ref an, .ref at_, .int 0, .int 0, .int 0, .int 0]))] sz)) (vx_X (fun _ : Unit => True) (fun E _ _ => E = "java/lang/IndexOutOfBoundsException") (va_A [(x, .inr (13, [.ref pr, .ref op, .ref ma, .ref la, .ref tr, .ref oc, .long 0])), (pr, .inr (10, [.ref av, .ref af, .ref ab, .ref an, .ref at_, .int 0, .int 0, .int 0, .int 0]))] sz)) 1 6 (va_A [(x, .inr (13, [.ref pr, .ref op, .ref ma, .ref la, .ref tr, .ref oc, .long 0])), (pr, .inr (10, [.ref av, .ref af, .ref ab, .ref an, .ref at_, .int 0, .int 0, .int 0, .int 0]))] sz) := by
  refine vx_ofW (cc := cX11_setBody) (maxL := 5) (ret := (some .int)) (by decide +kernel) rfl ?_
  intro p e s m args below meth c s₁ B hml hno hv
  obtain ⟨rfl, hsz, hP, hK, hD0, hX⟩ := hv
  have hx := B.exec
  have hb := B.bytes
  have hr := B.returns
  have hts := atoms_spec (ws := wz_X11_setBody) B.pre
  have hown : s.vm.findClass RX11 = some m.cls := findClass_of_methodNamed B.named
  have hlocks := B.notSynchronized
  subst hsz
  have hD := hD0.self (sz := s.heap.size)
  generalize hAe : va_A [(x, .inr (13, [.ref pr, .ref op, .ref ma, .ref la, .ref tr, .ref oc, .long 0])), (pr, .inr (10, [.ref av, .ref af, .ref ab, .ref an, .ref at_, .int 0, .int 0, .int 0, .int 0]))] s.heap.size = A at hD hX ⊢
  have hA : ∀ q : Nat, s.heap.size ≤ q → A q := fun q h => by rw [← hAe]; exact Or.inr h
  have hS : va_S A s.heap s.heap [] := va_S.rf
  have hP : va_P (dC, dI) vwCl [(x, .inr (13, [.ref pr, .ref op, .ref ma, .ref la, .ref tr, .ref oc, .long 0])), (pr, .inr (10, [.ref av, .ref af, .ref ab, .ref an, .ref at_, .int 0, .int 0, .int 0, .int 0]))] s.heap := hP
  have hl := lv_entry ([.ref x, .int i, .int j]) (n := 5) (Nat.le_of_ble_eq_true rfl)
  rw [lg_entry_eq]
  generalize (lg_sl ([.ref x, .int i, .int j]) ++ List.replicate (5 - (lg_sl ([.ref x, .int i, .int j])).length) Slot.unset).toArray = ls at hl ⊢
  have hl : lv_has ls 5 [(0, .ref x), (1, .int i), (2, .int j)] := hl
  refine lv_aload_n hx hb dX11_setBody_0 rfl (lv_at hl 0 rfl) ?_
  refine va_get (D := (dC, dI)) (ci := 13) (v := .ref pr) (C := RX11) (T := TX11) (N := 7) hx hb hts (fun w h => (List.mem_cons_of_mem _ (List.mem_append_right _ (List.mem_append_left _ h)))) hown hK hP 0 rfl rfl 0 (by decide) (hts (.fieldLink RX11 10 "Sequencepoint" "program" "LSequencepoint$Program;") (by decide +kernel)) (fun _ h9 => h9) rfl dX11_setBody_1 ?_
  refine lv_iload_n hx hb dX11_setBody_4 rfl (lv_at hl 1 rfl) ?_
  have hPc := hP.sub (ws' := [(pr, .inr (10, [.ref av, .ref af, .ref ab, .ref an, .ref at_, .int 0, .int 0, .int 0, .int 0]))]) [1] rfl
  have hKc := hK.sub (tys' := []) [] rfl
  refine va_csq (va_Run.run (va_runV (As := [.int i]) (rest := []) ⟨hx, hb, hml, hown, hts⟩ (z_X7_functionAt l dC dI pr av af ab an at_ i) (cwV 1 hts (goodIn_sub (ws := wsV RX11 122 RX7 yX7_functionAt wz_X7_functionAt) (fun w h => (List.mem_cons_of_mem _ (List.mem_append_right _ (List.mem_append_right _ (List.mem_append_left _ h))))) (by decide +kernel)) rfl rfl rfl (by decide +kernel) ⟨Nat.le_of_ble_eq_true rfl, Nat.le_of_ble_eq_true rfl⟩) ⟨fun a U g mk q => by obtain ⟨q0, qP, qK⟩ := q; exact ⟨q0, qP, va_K.moved (u := U) (U := U.calling g mk a) (Vm.Alike.refl U.vm) qK⟩, va_recv hKc hPc (ci := 10) (q0 := 0) rfl rfl, fun U hU hW => ⟨rfl, by rw [hU]; exact hPc, va_K.moved hW.alike hKc⟩⟩ rfl rfl hl.1 rfl (lv_room (Nat.le_of_ble_eq_true rfl)) dX11_setBody_5 ⟨(Nat.le_of_ble_eq_true rfl), (Nat.le_of_ble_eq_true rfl)⟩)) (fun r_1 hr_1 => ?_)
  subst hr_1
  refine W.eq (g2 := F0 m 8 ls [.null]) rfl ?_
  refine lv_astore_nN (lv' := [(3, .null), (0, .ref x), (1, .int i), (2, .int j)]) hx hb dX11_setBody_8 rfl hl (by decide) rfl (fun ls hl => ?_)
  refine lv_aload_n hx hb dX11_setBody_9 rfl (lv_at hl 1 rfl) ?_
  refine va_get (D := (dC, dI)) (ci := 13) (v := .ref pr) (C := RX11) (T := TX11) (N := 7) hx hb hts (fun w h => (List.mem_cons_of_mem _ (List.mem_append_right _ (List.mem_append_left _ h)))) hown hK hP 0 rfl rfl 0 (by decide) (hts (.fieldLink RX11 10 "Sequencepoint" "program" "LSequencepoint$Program;") (by decide +kernel)) (fun _ h9 => h9) rfl dX11_setBody_10 ?_
  refine lv_iload_n hx hb dX11_setBody_13 rfl (lv_at hl 3 rfl) ?_
  have hPc := hP.sub (ws' := [(pr, .inr (10, [.ref av, .ref af, .ref ab, .ref an, .ref at_, .int 0, .int 0, .int 0, .int 0]))]) [1] rfl
  have hKc := hK.sub (tys' := []) [] rfl
  refine va_csq (va_Run.run (va_runV (As := [.int j]) (rest := []) ⟨hx, hb, hml, hown, hts⟩ (z_X7_statementAt l dC dI pr av af ab an at_ j) (cwV 1 hts (goodIn_sub (ws := wsV RX11 126 RX7 yX7_statementAt wz_X7_statementAt) (fun w h => (List.mem_cons_of_mem _ (List.mem_append_right _ (List.mem_append_right _ (List.mem_append_right _ (List.mem_append_left _ h)))))) (by decide +kernel)) rfl rfl rfl (by decide +kernel) ⟨Nat.le_of_ble_eq_true rfl, Nat.le_of_ble_eq_true rfl⟩) ⟨fun a U g mk q => by obtain ⟨q0, qP, qK⟩ := q; exact ⟨q0, qP, va_K.moved (u := U) (U := U.calling g mk a) (Vm.Alike.refl U.vm) qK⟩, va_recv hKc hPc (ci := 10) (q0 := 0) rfl rfl, fun U hU hW => ⟨rfl, by rw [hU]; exact hPc, va_K.moved hW.alike hKc⟩⟩ rfl rfl hl.1 rfl (lv_room (Nat.le_of_ble_eq_true rfl)) dX11_setBody_14 ⟨(Nat.le_of_ble_eq_true rfl), (Nat.le_of_ble_eq_true rfl)⟩)) (fun r_2 hr_2 => ?_)
  subst hr_2
  refine W.eq (g2 := F0 m 17 ls [.null]) rfl ?_
  refine lv_astoreN (lv' := [(4, .null), (3, .null), (0, .ref x), (1, .int i), (2, .int j)]) hx hb dX11_setBody_17 hl (by decide) rfl (fun ls hl => ?_)
  refine lv_aload_nN hx hb dX11_setBody_19 rfl (lv_at hl 1 rfl) ?_
  refine lv_ifnullN (tgt := 28) hx hb dX11_setBody_20 (by decide) ?_
  exact xw_throw (E := "java/lang/IndexOutOfBoundsException") (text := "no such function or statement") (ik := 86) (is := 130) (ic := 90) hx hb hlt hown (by decide +kernel) (by decide +kernel) (hts (.classLink RX11 86 "java/lang/IndexOutOfBoundsException") (by decide +kernel)) (hts (.initialized "java/lang/IndexOutOfBoundsException") (by decide +kernel)) (by decide +kernel) (fun w h => hts w (List.mem_cons_of_mem _ (List.mem_append_right _ (List.mem_append_right _ (List.mem_append_right _ (List.mem_append_right _ (List.mem_append_left _ h))))))) xw_bIOB xw_gIOB hX hS (by rw [hml]; exact hl.1) dX11_setBody_28 dX11_setBody_31 dX11_setBody_32 dX11_setBody_34 dX11_setBody_37 hno (Nat.le_of_ble_eq_true rfl) (Nat.le_of_ble_eq_true rfl) (Nat.le_of_ble_eq_true rfl) (Nat.le_of_ble_eq_true rfl) hlocks (fun t h1 h2 => ⟨(), trivial, rfl, h2⟩) hS.2.2 (Nat.le_of_ble_eq_true rfl) (Nat.le_of_ble_eq_true rfl)

def wz_X11_name : List Cond := .code yX11_name cX11_name 4 (some .int) :: ([.fieldLink RX11 10 "Sequencepoint" "program" "LSequencepoint$Program;", .classLink RX11 86 "java/lang/IndexOutOfBoundsException", .initialized "java/lang/IndexOutOfBoundsException"] ++ (wsX110 ++ ((wsV RX11 82 RX7 yX7_variableAt wz_X7_variableAt) ++ (((vx_atS RX11 90 "java/lang/IndexOutOfBoundsException" xw_N).filter goodWord) ++ []))))
set_option maxHeartbeats 4000000 in
set_option maxRecDepth 100000 in
theorem z_X11_name (l : Launch) (hlt : l.stackTraces = false) (dC : Nat → ClassId) (dI : Nat → Nat → Nat) (x : Nat) (pr : Nat) (op : Nat) (ma : Nat) (la : Nat) (tr : Nat) (oc : Nat) (av : Nat) (af : Nat) (ab : Nat) (an : Nat) (at_ : Nat) (i : Int32) (sz : Nat) : vx_Met l yX11_name wz_X11_name ({ frames := 6, cells := 1, slots := 6, locals := 100 }) (va_Pc [.ref x, .int i] (fun U => U.heap.size = sz ∧ va_P (dC, dI) vwCl [(x, .inr (13, [.ref pr, .ref op, .ref ma, .ref la, .ref tr, .ref oc, .long 0])), (pr, .inr (10, [.ref av, .ref af, .ref ab, .ref an, .ref at_, .int 0, .int 0, .int 0, .int 0]))] U.heap ∧ va_K (dC, dI) vwCl [] U ∧ va_D (fun _ => True) [(x, .inr (13, [.ref pr, .ref op, .ref ma, .ref la, .ref tr, .ref oc, .long 0])), (pr, .inr (10, [.ref av, .ref af, .ref ab, .ref an, .ref at_, .int 0, .int 0, .int 0, .int 0]))] ∧ xw (va_A [(x, .inr (13, [.ref pr, .ref op, .ref ma, .ref la, .ref tr, .ref oc, .long 0])), (pr, .inr (10, [.ref av, .ref af, .ref ab, .ref an, .ref at_, .int 0, .int 0, .int 0, .int 0]))] sz) U U.heap)) (va_Qi (fun (r : Int32) (_ : Unit) => "java/lang/IndexOutOfBoundsException" = "" ∧ True) (fun _ t => True) (va_A [(x, .inr (13, [.ref pr, .ref op, .ref ma, .ref la, .ref tr, .ref oc, .long 0])), (pr, .inr (10, [.ref av, .ref af, .ref ab, .ref an, .ref at_, .int 0, .int 0, .int 0, .int 0]))] sz)) (vx_X (fun _ : Unit => True) (fun E _ _ => E = "java/lang/IndexOutOfBoundsException") (va_A [(x, .inr (13, [.ref pr, .ref op, .ref ma, .ref la, .ref tr, .ref oc, .long 0])), (pr, .inr (10, [.ref av, .ref af, .ref ab, .ref an, .ref at_, .int 0, .int 0, .int 0, .int 0]))] sz)) 1 6 (va_A [(x, .inr (13, [.ref pr, .ref op, .ref ma, .ref la, .ref tr, .ref oc, .long 0])), (pr, .inr (10, [.ref av, .ref af, .ref ab, .ref an, .ref at_, .int 0, .int 0, .int 0, .int 0]))] sz) := by
  refine vx_ofW (cc := cX11_name) (maxL := 4) (ret := (some .int)) (by decide +kernel) rfl ?_
  intro p e s m args below meth c s₁ B hml hno hv
  obtain ⟨rfl, hsz, hP, hK, hD0, hX⟩ := hv
  have hx := B.exec
  have hb := B.bytes
  have hr := B.returns
  have hts := atoms_spec (ws := wz_X11_name) B.pre
  have hown : s.vm.findClass RX11 = some m.cls := findClass_of_methodNamed B.named
  have hlocks := B.notSynchronized
  subst hsz
  have hD := hD0.self (sz := s.heap.size)
  generalize hAe : va_A [(x, .inr (13, [.ref pr, .ref op, .ref ma, .ref la, .ref tr, .ref oc, .long 0])), (pr, .inr (10, [.ref av, .ref af, .ref ab, .ref an, .ref at_, .int 0, .int 0, .int 0, .int 0]))] s.heap.size = A at hD hX ⊢
  have hA : ∀ q : Nat, s.heap.size ≤ q → A q := fun q h => by rw [← hAe]; exact Or.inr h
  have hS : va_S A s.heap s.heap [] := va_S.rf
  have hP : va_P (dC, dI) vwCl [(x, .inr (13, [.ref pr, .ref op, .ref ma, .ref la, .ref tr, .ref oc, .long 0])), (pr, .inr (10, [.ref av, .ref af, .ref ab, .ref an, .ref at_, .int 0, .int 0, .int 0, .int 0]))] s.heap := hP
  have hl := lv_entry ([.ref x, .int i]) (n := 4) (Nat.le_of_ble_eq_true rfl)
  rw [lg_entry_eq]
  generalize (lg_sl ([.ref x, .int i]) ++ List.replicate (4 - (lg_sl ([.ref x, .int i])).length) Slot.unset).toArray = ls at hl ⊢
  have hl : lv_has ls 4 [(0, .ref x), (1, .int i)] := hl
  refine lv_aload_n hx hb dX11_name_0 rfl (lv_at hl 0 rfl) ?_
  refine va_get (D := (dC, dI)) (ci := 13) (v := .ref pr) (C := RX11) (T := TX11) (N := 7) hx hb hts (fun w h => (List.mem_cons_of_mem _ (List.mem_append_right _ (List.mem_append_left _ h)))) hown hK hP 0 rfl rfl 0 (by decide) (hts (.fieldLink RX11 10 "Sequencepoint" "program" "LSequencepoint$Program;") (by decide +kernel)) (fun _ h9 => h9) rfl dX11_name_1 ?_
  refine lv_iload_n hx hb dX11_name_4 rfl (lv_at hl 1 rfl) ?_
  have hPc := hP.sub (ws' := [(pr, .inr (10, [.ref av, .ref af, .ref ab, .ref an, .ref at_, .int 0, .int 0, .int 0, .int 0]))]) [1] rfl
  have hKc := hK.sub (tys' := []) [] rfl
  refine va_csq (va_Run.run (va_runV (As := [.int i]) (rest := []) ⟨hx, hb, hml, hown, hts⟩ (z_X7_variableAt l dC dI pr av af ab an at_ i) (cwV 1 hts (goodIn_sub (ws := wsV RX11 82 RX7 yX7_variableAt wz_X7_variableAt) (fun w h => (List.mem_cons_of_mem _ (List.mem_append_right _ (List.mem_append_right _ (List.mem_append_left _ h))))) (by decide +kernel)) rfl rfl rfl (by decide +kernel) ⟨Nat.le_of_ble_eq_true rfl, Nat.le_of_ble_eq_true rfl⟩) ⟨fun a U g mk q => by obtain ⟨q0, qP, qK⟩ := q; exact ⟨q0, qP, va_K.moved (u := U) (U := U.calling g mk a) (Vm.Alike.refl U.vm) qK⟩, va_recv hKc hPc (ci := 10) (q0 := 0) rfl rfl, fun U hU hW => ⟨rfl, by rw [hU]; exact hPc, va_K.moved hW.alike hKc⟩⟩ rfl rfl hl.1 rfl (lv_room (Nat.le_of_ble_eq_true rfl)) dX11_name_5 ⟨(Nat.le_of_ble_eq_true rfl), (Nat.le_of_ble_eq_true rfl)⟩)) (fun r_1 hr_1 => ?_)
  subst hr_1
  refine W.eq (g2 := F0 m 8 ls [.null]) rfl ?_
  refine lv_astore_nN (lv' := [(2, .null), (0, .ref x), (1, .int i)]) hx hb dX11_name_8 rfl hl (by decide) rfl (fun ls hl => ?_)
  refine lv_aload_nN hx hb dX11_name_9 rfl (lv_at hl 0 rfl) ?_
  refine lv_ifnonnullN hx hb dX11_name_10 ?_
  exact xw_throw (E := "java/lang/IndexOutOfBoundsException") (text := "no such variable") (ik := 86) (is := 88) (ic := 90) hx hb hlt hown (by decide +kernel) (by decide +kernel) (hts (.classLink RX11 86 "java/lang/IndexOutOfBoundsException") (by decide +kernel)) (hts (.initialized "java/lang/IndexOutOfBoundsException") (by decide +kernel)) (by decide +kernel) (fun w h => hts w (List.mem_cons_of_mem _ (List.mem_append_right _ (List.mem_append_right _ (List.mem_append_right _ (List.mem_append_left _ h)))))) xw_bIOB xw_gIOB hX hS (by rw [hml]; exact hl.1) dX11_name_13 dX11_name_16 dX11_name_17 dX11_name_19 dX11_name_22 hno (Nat.le_of_ble_eq_true rfl) (Nat.le_of_ble_eq_true rfl) (Nat.le_of_ble_eq_true rfl) (Nat.le_of_ble_eq_true rfl) hlocks (fun t h1 h2 => ⟨(), trivial, rfl, h2⟩) hS.2.2 (Nat.le_of_ble_eq_true rfl) (Nat.le_of_ble_eq_true rfl)

def o_X11_cast (i : Int32) (j : Int32) : String := if (f_X4_isNumber i) = 0 then "java/lang/IllegalArgumentException" else "java/lang/IndexOutOfBoundsException"
def wz_X11_cast : List Cond := .code yX11_cast cX11_cast 4 (some .int) :: ([.fieldLink RX11 10 "Sequencepoint" "program" "LSequencepoint$Program;", .classLink RX11 86 "java/lang/IndexOutOfBoundsException", .initialized "java/lang/IndexOutOfBoundsException", .classLink RX11 50 "java/lang/IllegalArgumentException", .initialized "java/lang/IllegalArgumentException"] ++ ((va_wsS RX11 57 yX4_isNumber wc_X4_isNumber) ++ (wsX110 ++ ((wsV RX11 186 RX7 yX7_nodeAt wz_X7_nodeAt) ++ (((vx_atS RX11 90 "java/lang/IndexOutOfBoundsException" xw_N).filter goodWord) ++ (((vx_atS RX11 54 "java/lang/IllegalArgumentException" xw_N).filter goodWord) ++ []))))))
set_option maxHeartbeats 4000000 in
set_option maxRecDepth 100000 in
theorem z_X11_cast (l : Launch) (hlt : l.stackTraces = false) (dC : Nat → ClassId) (dI : Nat → Nat → Nat) (x : Nat) (pr : Nat) (op : Nat) (ma : Nat) (la : Nat) (tr : Nat) (oc : Nat) (av : Nat) (af : Nat) (ab : Nat) (an : Nat) (at_ : Nat) (i : Int32) (j : Int32) (sz : Nat) : vx_Met l yX11_cast wz_X11_cast ({ frames := 6, cells := 1, slots := 6, locals := 100 }) (va_Pc [.ref x, .int i, .int j] (fun U => U.heap.size = sz ∧ va_P (dC, dI) vwCl [(x, .inr (13, [.ref pr, .ref op, .ref ma, .ref la, .ref tr, .ref oc, .long 0])), (pr, .inr (10, [.ref av, .ref af, .ref ab, .ref an, .ref at_, .int 0, .int 0, .int 0, .int 0]))] U.heap ∧ va_K (dC, dI) vwCl [] U ∧ va_D (fun _ => True) [(x, .inr (13, [.ref pr, .ref op, .ref ma, .ref la, .ref tr, .ref oc, .long 0])), (pr, .inr (10, [.ref av, .ref af, .ref ab, .ref an, .ref at_, .int 0, .int 0, .int 0, .int 0]))] ∧ xw (va_A [(x, .inr (13, [.ref pr, .ref op, .ref ma, .ref la, .ref tr, .ref oc, .long 0])), (pr, .inr (10, [.ref av, .ref af, .ref ab, .ref an, .ref at_, .int 0, .int 0, .int 0, .int 0]))] sz) U U.heap)) (va_Qi (fun (r : Int32) (_ : Unit) => o_X11_cast i j = "" ∧ True) (fun _ t => True) (va_A [(x, .inr (13, [.ref pr, .ref op, .ref ma, .ref la, .ref tr, .ref oc, .long 0])), (pr, .inr (10, [.ref av, .ref af, .ref ab, .ref an, .ref at_, .int 0, .int 0, .int 0, .int 0]))] sz)) (vx_X (fun _ : Unit => True) (fun E _ _ => E = o_X11_cast i j) (va_A [(x, .inr (13, [.ref pr, .ref op, .ref ma, .ref la, .ref tr, .ref oc, .long 0])), (pr, .inr (10, [.ref av, .ref af, .ref ab, .ref an, .ref at_, .int 0, .int 0, .int 0, .int 0]))] sz)) 1 6 (va_A [(x, .inr (13, [.ref pr, .ref op, .ref ma, .ref la, .ref tr, .ref oc, .long 0])), (pr, .inr (10, [.ref av, .ref af, .ref ab, .ref an, .ref at_, .int 0, .int 0, .int 0, .int 0]))] sz) := by
  refine vx_ofW (cc := cX11_cast) (maxL := 4) (ret := (some .int)) (by decide +kernel) rfl ?_
  intro p e s m args below meth c s₁ B hml hno hv
  obtain ⟨rfl, hsz, hP, hK, hD0, hX⟩ := hv
  have hx := B.exec
  have hb := B.bytes
  have hr := B.returns
  have hts := atoms_spec (ws := wz_X11_cast) B.pre
  have hown : s.vm.findClass RX11 = some m.cls := findClass_of_methodNamed B.named
  have hlocks := B.notSynchronized
  subst hsz
  have hD := hD0.self (sz := s.heap.size)
  generalize hAe : va_A [(x, .inr (13, [.ref pr, .ref op, .ref ma, .ref la, .ref tr, .ref oc, .long 0])), (pr, .inr (10, [.ref av, .ref af, .ref ab, .ref an, .ref at_, .int 0, .int 0, .int 0, .int 0]))] s.heap.size = A at hD hX ⊢
  have hA : ∀ q : Nat, s.heap.size ≤ q → A q := fun q h => by rw [← hAe]; exact Or.inr h
  have hS : va_S A s.heap s.heap [] := va_S.rf
  have hP : va_P (dC, dI) vwCl [(x, .inr (13, [.ref pr, .ref op, .ref ma, .ref la, .ref tr, .ref oc, .long 0])), (pr, .inr (10, [.ref av, .ref af, .ref ab, .ref an, .ref at_, .int 0, .int 0, .int 0, .int 0]))] s.heap := hP
  have hl := lv_entry ([.ref x, .int i, .int j]) (n := 4) (Nat.le_of_ble_eq_true rfl)
  rw [lg_entry_eq]
  generalize (lg_sl ([.ref x, .int i, .int j]) ++ List.replicate (4 - (lg_sl ([.ref x, .int i, .int j])).length) Slot.unset).toArray = ls at hl ⊢
  have hl : lv_has ls 4 [(0, .ref x), (1, .int i), (2, .int j)] := hl
  refine lv_iload_n hx hb dX11_cast_0 rfl (lv_at hl 1 rfl) ?_
  refine vp_callSi (va_Run.run (va_runS (As := [.int i]) (rest := []) ⟨hx, hb, hml, hown, hts⟩ (c_X4_isNumber l i) (va_cwS 1 hts (goodIn_sub (ws := va_wsS RX11 57 yX4_isNumber wc_X4_isNumber) (fun w h => (List.mem_cons_of_mem _ (List.mem_append_right _ (List.mem_append_left _ h)))) (by decide +kernel)) rfl rfl rfl (by decide +kernel) ⟨(Nat.le_of_ble_eq_true rfl), (Nat.le_of_ble_eq_true rfl)⟩) ⟨fun _ _ _ _ q => q, fun U hU hW => ⟨rfl, trivial⟩⟩ rfl rfl hl.1 rfl (lv_room (Nat.le_of_ble_eq_true rfl)) dX11_cast_1 ⟨(Nat.zero_le _), (Nat.zero_le _)⟩)) (fun r_1 hr_1 => ?_)
  subst hr_1
  refine lv_if_ne (tgt := 17) hx hb dX11_cast_4 (by decide) (fun c_2 => ?_) (fun c_2 => ?_)
  · refine lv_aload_n hx hb dX11_cast_17 rfl (lv_at hl 0 rfl) ?_
    refine va_get (D := (dC, dI)) (ci := 13) (v := .ref pr) (C := RX11) (T := TX11) (N := 7) hx hb hts (fun w h => (List.mem_cons_of_mem _ (List.mem_append_right _ (List.mem_append_right _ (List.mem_append_left _ h))))) hown hK hP 0 rfl rfl 0 (by decide) (hts (.fieldLink RX11 10 "Sequencepoint" "program" "LSequencepoint$Program;") (by decide +kernel)) (fun _ h9 => h9) rfl dX11_cast_18 ?_
    refine lv_iload_n hx hb dX11_cast_21 rfl (lv_at hl 2 rfl) ?_
    have hPc := hP.sub (ws' := [(pr, .inr (10, [.ref av, .ref af, .ref ab, .ref an, .ref at_, .int 0, .int 0, .int 0, .int 0]))]) [1] rfl
    have hKc := hK.sub (tys' := []) [] rfl
    refine va_csq (va_Run.run (va_runV (As := [.int j]) (rest := []) ⟨hx, hb, hml, hown, hts⟩ (z_X7_nodeAt l dC dI pr av af ab an at_ j) (cwV 1 hts (goodIn_sub (ws := wsV RX11 186 RX7 yX7_nodeAt wz_X7_nodeAt) (fun w h => (List.mem_cons_of_mem _ (List.mem_append_right _ (List.mem_append_right _ (List.mem_append_right _ (List.mem_append_left _ h)))))) (by decide +kernel)) rfl rfl rfl (by decide +kernel) ⟨Nat.le_of_ble_eq_true rfl, Nat.le_of_ble_eq_true rfl⟩) ⟨fun a U g mk q => by obtain ⟨q0, qP, qK⟩ := q; exact ⟨q0, qP, va_K.moved (u := U) (U := U.calling g mk a) (Vm.Alike.refl U.vm) qK⟩, va_recv hKc hPc (ci := 10) (q0 := 0) rfl rfl, fun U hU hW => ⟨rfl, by rw [hU]; exact hPc, va_K.moved hW.alike hKc⟩⟩ rfl rfl hl.1 rfl (lv_room (Nat.le_of_ble_eq_true rfl)) dX11_cast_22 ⟨(Nat.le_of_ble_eq_true rfl), (Nat.le_of_ble_eq_true rfl)⟩)) (fun r_3 hr_3 => ?_)
    subst hr_3
    refine W.eq (g2 := F0 m 25 ls [.null]) rfl ?_
    refine lv_astore_nN (lv' := [(3, .null), (0, .ref x), (1, .int i), (2, .int j)]) hx hb dX11_cast_25 rfl hl (by decide) rfl (fun ls hl => ?_)
    refine lv_aload_nN hx hb dX11_cast_26 rfl (lv_at hl 0 rfl) ?_
    refine lv_ifnonnullN hx hb dX11_cast_27 ?_
    exact xw_throw (E := "java/lang/IndexOutOfBoundsException") (text := "no such node") (ik := 86) (is := 190) (ic := 90) hx hb hlt hown (by decide +kernel) (by decide +kernel) (hts (.classLink RX11 86 "java/lang/IndexOutOfBoundsException") (by decide +kernel)) (hts (.initialized "java/lang/IndexOutOfBoundsException") (by decide +kernel)) (by decide +kernel) (fun w h => hts w (List.mem_cons_of_mem _ (List.mem_append_right _ (List.mem_append_right _ (List.mem_append_right _ (List.mem_append_right _ (List.mem_append_left _ h))))))) xw_bIOB xw_gIOB hX hS (by rw [hml]; exact hl.1) dX11_cast_30 dX11_cast_33 dX11_cast_34 dX11_cast_36 dX11_cast_39 hno (Nat.le_of_ble_eq_true rfl) (Nat.le_of_ble_eq_true rfl) (Nat.le_of_ble_eq_true rfl) (Nat.le_of_ble_eq_true rfl) hlocks (fun t h1 h2 => ⟨(), trivial, by simp only [o_X11_cast, if_neg c_2], h2⟩) hS.2.2 (Nat.le_of_ble_eq_true rfl) (Nat.le_of_ble_eq_true rfl)
  · exact xw_throw (E := "java/lang/IllegalArgumentException") (text := "no number type") (ik := 50) (is := 204) (ic := 54) hx hb hlt hown (by decide +kernel) (by decide +kernel) (hts (.classLink RX11 50 "java/lang/IllegalArgumentException") (by decide +kernel)) (hts (.initialized "java/lang/IllegalArgumentException") (by decide +kernel)) (by decide +kernel) (fun w h => hts w (List.mem_cons_of_mem _ (List.mem_append_right _ (List.mem_append_right _ (List.mem_append_right _ (List.mem_append_right _ (List.mem_append_right _ (List.mem_append_left _ h)))))))) xw_bIAE xw_gIAE hX hS (by rw [hml]; exact hl.1) dX11_cast_7 dX11_cast_10 dX11_cast_11 dX11_cast_13 dX11_cast_16 hno (Nat.le_of_ble_eq_true rfl) (Nat.le_of_ble_eq_true rfl) (Nat.le_of_ble_eq_true rfl) (Nat.le_of_ble_eq_true rfl) hlocks (fun t h1 h2 => ⟨(), trivial, by simp only [o_X11_cast, if_pos c_2], h2⟩) hS.2.2 (Nat.le_of_ble_eq_true rfl) (Nat.le_of_ble_eq_true rfl)

def wz_X11_choose : List Cond := .code yX11_choose cX11_choose 8 (some .int) :: ([.fieldLink RX11 10 "Sequencepoint" "program" "LSequencepoint$Program;", .classLink RX11 86 "java/lang/IndexOutOfBoundsException", .initialized "java/lang/IndexOutOfBoundsException"] ++ (wsX110 ++ ((wsV RX11 186 RX7 yX7_nodeAt wz_X7_nodeAt) ++ (((vx_atS RX11 90 "java/lang/IndexOutOfBoundsException" xw_N).filter goodWord) ++ []))))
set_option maxHeartbeats 4000000 in
set_option maxRecDepth 100000 in
theorem z_X11_choose (l : Launch) (hlt : l.stackTraces = false) (dC : Nat → ClassId) (dI : Nat → Nat → Nat) (x : Nat) (pr : Nat) (op : Nat) (ma : Nat) (la : Nat) (tr : Nat) (oc : Nat) (av : Nat) (af : Nat) (ab : Nat) (an : Nat) (at_ : Nat) (i : Int32) (j : Int32) (k : Int32) (sz : Nat) : vx_Met l yX11_choose wz_X11_choose ({ frames := 6, cells := 1, slots := 6, locals := 100 }) (va_Pc [.ref x, .int i, .int j, .int k] (fun U => U.heap.size = sz ∧ va_P (dC, dI) vwCl [(x, .inr (13, [.ref pr, .ref op, .ref ma, .ref la, .ref tr, .ref oc, .long 0])), (pr, .inr (10, [.ref av, .ref af, .ref ab, .ref an, .ref at_, .int 0, .int 0, .int 0, .int 0]))] U.heap ∧ va_K (dC, dI) vwCl [] U ∧ va_D (fun _ => True) [(x, .inr (13, [.ref pr, .ref op, .ref ma, .ref la, .ref tr, .ref oc, .long 0])), (pr, .inr (10, [.ref av, .ref af, .ref ab, .ref an, .ref at_, .int 0, .int 0, .int 0, .int 0]))] ∧ xw (va_A [(x, .inr (13, [.ref pr, .ref op, .ref ma, .ref la, .ref tr, .ref oc, .long 0])), (pr, .inr (10, [.ref av, .ref af, .ref ab, .ref an, .ref at_, .int 0, .int 0, .int 0, .int 0]))] sz) U U.heap)) (va_Qi (fun (r : Int32) (_ : Unit) => "java/lang/IndexOutOfBoundsException" = "" ∧ True) (fun _ t => True) (va_A [(x, .inr (13, [.ref pr, .ref op, .ref ma, .ref la, .ref tr, .ref oc, .long 0])), (pr, .inr (10, [.ref av, .ref af, .ref ab, .ref an, .ref at_, .int 0, .int 0, .int 0, .int 0]))] sz)) (vx_X (fun _ : Unit => True) (fun E _ _ => E = "java/lang/IndexOutOfBoundsException") (va_A [(x, .inr (13, [.ref pr, .ref op, .ref ma, .ref la, .ref tr, .ref oc, .long 0])), (pr, .inr (10, [.ref av, .ref af, .ref ab, .ref an, .ref at_, .int 0, .int 0, .int 0, .int 0]))] sz)) 1 6 (va_A [(x, .inr (13, [.ref pr, .ref op, .ref ma, .ref la, .ref tr, .ref oc, .long 0])), (pr, .inr (10, [.ref av, .ref af, .ref ab, .ref an, .ref at_, .int 0, .int 0, .int 0, .int 0]))] sz) := by
  refine vx_ofW (cc := cX11_choose) (maxL := 8) (ret := (some .int)) (by decide +kernel) rfl ?_
  intro p e s m args below meth c s₁ B hml hno hv
  obtain ⟨rfl, hsz, hP, hK, hD0, hX⟩ := hv
  have hx := B.exec
  have hb := B.bytes
  have hr := B.returns
  have hts := atoms_spec (ws := wz_X11_choose) B.pre
  have hown : s.vm.findClass RX11 = some m.cls := findClass_of_methodNamed B.named
  have hlocks := B.notSynchronized
  subst hsz
  have hD := hD0.self (sz := s.heap.size)
  generalize hAe : va_A [(x, .inr (13, [.ref pr, .ref op, .ref ma, .ref la, .ref tr, .ref oc, .long 0])), (pr, .inr (10, [.ref av, .ref af, .ref ab, .ref an, .ref at_, .int 0, .int 0, .int 0, .int 0]))] s.heap.size = A at hD hX ⊢
  have hA : ∀ q : Nat, s.heap.size ≤ q → A q := fun q h => by rw [← hAe]; exact Or.inr h
  have hS : va_S A s.heap s.heap [] := va_S.rf
  have hP : va_P (dC, dI) vwCl [(x, .inr (13, [.ref pr, .ref op, .ref ma, .ref la, .ref tr, .ref oc, .long 0])), (pr, .inr (10, [.ref av, .ref af, .ref ab, .ref an, .ref at_, .int 0, .int 0, .int 0, .int 0]))] s.heap := hP
  have hl := lv_entry ([.ref x, .int i, .int j, .int k]) (n := 8) (Nat.le_of_ble_eq_true rfl)
  rw [lg_entry_eq]
  generalize (lg_sl ([.ref x, .int i, .int j, .int k]) ++ List.replicate (8 - (lg_sl ([.ref x, .int i, .int j, .int k])).length) Slot.unset).toArray = ls at hl ⊢
  have hl : lv_has ls 8 [(0, .ref x), (1, .int i), (2, .int j), (3, .int k)] := hl
  refine lv_aload_n hx hb dX11_choose_0 rfl (lv_at hl 0 rfl) ?_
  refine va_get (D := (dC, dI)) (ci := 13) (v := .ref pr) (C := RX11) (T := TX11) (N := 7) hx hb hts (fun w h => (List.mem_cons_of_mem _ (List.mem_append_right _ (List.mem_append_left _ h)))) hown hK hP 0 rfl rfl 0 (by decide) (hts (.fieldLink RX11 10 "Sequencepoint" "program" "LSequencepoint$Program;") (by decide +kernel)) (fun _ h9 => h9) rfl dX11_choose_1 ?_
  refine lv_iload_n hx hb dX11_choose_4 rfl (lv_at hl 1 rfl) ?_
  have hPc := hP.sub (ws' := [(pr, .inr (10, [.ref av, .ref af, .ref ab, .ref an, .ref at_, .int 0, .int 0, .int 0, .int 0]))]) [1] rfl
  have hKc := hK.sub (tys' := []) [] rfl
  refine va_csq (va_Run.run (va_runV (As := [.int i]) (rest := []) ⟨hx, hb, hml, hown, hts⟩ (z_X7_nodeAt l dC dI pr av af ab an at_ i) (cwV 1 hts (goodIn_sub (ws := wsV RX11 186 RX7 yX7_nodeAt wz_X7_nodeAt) (fun w h => (List.mem_cons_of_mem _ (List.mem_append_right _ (List.mem_append_right _ (List.mem_append_left _ h))))) (by decide +kernel)) rfl rfl rfl (by decide +kernel) ⟨Nat.le_of_ble_eq_true rfl, Nat.le_of_ble_eq_true rfl⟩) ⟨fun a U g mk q => by obtain ⟨q0, qP, qK⟩ := q; exact ⟨q0, qP, va_K.moved (u := U) (U := U.calling g mk a) (Vm.Alike.refl U.vm) qK⟩, va_recv hKc hPc (ci := 10) (q0 := 0) rfl rfl, fun U hU hW => ⟨rfl, by rw [hU]; exact hPc, va_K.moved hW.alike hKc⟩⟩ rfl rfl hl.1 rfl (lv_room (Nat.le_of_ble_eq_true rfl)) dX11_choose_5 ⟨(Nat.le_of_ble_eq_true rfl), (Nat.le_of_ble_eq_true rfl)⟩)) (fun r_1 hr_1 => ?_)
  subst hr_1
  refine W.eq (g2 := F0 m 8 ls [.null]) rfl ?_
  refine lv_astoreN (lv' := [(4, .null), (0, .ref x), (1, .int i), (2, .int j), (3, .int k)]) hx hb dX11_choose_8 hl (by decide) rfl (fun ls hl => ?_)
  refine lv_aload_n hx hb dX11_choose_10 rfl (lv_at hl 1 rfl) ?_
  refine va_get (D := (dC, dI)) (ci := 13) (v := .ref pr) (C := RX11) (T := TX11) (N := 7) hx hb hts (fun w h => (List.mem_cons_of_mem _ (List.mem_append_right _ (List.mem_append_left _ h)))) hown hK hP 0 rfl rfl 0 (by decide) (hts (.fieldLink RX11 10 "Sequencepoint" "program" "LSequencepoint$Program;") (by decide +kernel)) (fun _ h9 => h9) rfl dX11_choose_11 ?_
  refine lv_iload_n hx hb dX11_choose_14 rfl (lv_at hl 3 rfl) ?_
  have hPc := hP.sub (ws' := [(pr, .inr (10, [.ref av, .ref af, .ref ab, .ref an, .ref at_, .int 0, .int 0, .int 0, .int 0]))]) [1] rfl
  have hKc := hK.sub (tys' := []) [] rfl
  refine va_csq (va_Run.run (va_runV (As := [.int j]) (rest := []) ⟨hx, hb, hml, hown, hts⟩ (z_X7_nodeAt l dC dI pr av af ab an at_ j) (cwV 1 hts (goodIn_sub (ws := wsV RX11 186 RX7 yX7_nodeAt wz_X7_nodeAt) (fun w h => (List.mem_cons_of_mem _ (List.mem_append_right _ (List.mem_append_right _ (List.mem_append_left _ h))))) (by decide +kernel)) rfl rfl rfl (by decide +kernel) ⟨Nat.le_of_ble_eq_true rfl, Nat.le_of_ble_eq_true rfl⟩) ⟨fun a U g mk q => by obtain ⟨q0, qP, qK⟩ := q; exact ⟨q0, qP, va_K.moved (u := U) (U := U.calling g mk a) (Vm.Alike.refl U.vm) qK⟩, va_recv hKc hPc (ci := 10) (q0 := 0) rfl rfl, fun U hU hW => ⟨rfl, by rw [hU]; exact hPc, va_K.moved hW.alike hKc⟩⟩ rfl rfl hl.1 rfl (lv_room (Nat.le_of_ble_eq_true rfl)) dX11_choose_15 ⟨(Nat.le_of_ble_eq_true rfl), (Nat.le_of_ble_eq_true rfl)⟩)) (fun r_2 hr_2 => ?_)
  subst hr_2
  refine W.eq (g2 := F0 m 18 ls [.null]) rfl ?_
  refine lv_astoreN (lv' := [(5, .null), (4, .null), (0, .ref x), (1, .int i), (2, .int j), (3, .int k)]) hx hb dX11_choose_18 hl (by decide) rfl (fun ls hl => ?_)
  refine lv_aload_n hx hb dX11_choose_20 rfl (lv_at hl 2 rfl) ?_
  refine va_get (D := (dC, dI)) (ci := 13) (v := .ref pr) (C := RX11) (T := TX11) (N := 7) hx hb hts (fun w h => (List.mem_cons_of_mem _ (List.mem_append_right _ (List.mem_append_left _ h)))) hown hK hP 0 rfl rfl 0 (by decide) (hts (.fieldLink RX11 10 "Sequencepoint" "program" "LSequencepoint$Program;") (by decide +kernel)) (fun _ h9 => h9) rfl dX11_choose_21 ?_
  refine lv_iload_n hx hb dX11_choose_24 rfl (lv_at hl 5 rfl) ?_
  have hPc := hP.sub (ws' := [(pr, .inr (10, [.ref av, .ref af, .ref ab, .ref an, .ref at_, .int 0, .int 0, .int 0, .int 0]))]) [1] rfl
  have hKc := hK.sub (tys' := []) [] rfl
  refine va_csq (va_Run.run (va_runV (As := [.int k]) (rest := []) ⟨hx, hb, hml, hown, hts⟩ (z_X7_nodeAt l dC dI pr av af ab an at_ k) (cwV 1 hts (goodIn_sub (ws := wsV RX11 186 RX7 yX7_nodeAt wz_X7_nodeAt) (fun w h => (List.mem_cons_of_mem _ (List.mem_append_right _ (List.mem_append_right _ (List.mem_append_left _ h))))) (by decide +kernel)) rfl rfl rfl (by decide +kernel) ⟨Nat.le_of_ble_eq_true rfl, Nat.le_of_ble_eq_true rfl⟩) ⟨fun a U g mk q => by obtain ⟨q0, qP, qK⟩ := q; exact ⟨q0, qP, va_K.moved (u := U) (U := U.calling g mk a) (Vm.Alike.refl U.vm) qK⟩, va_recv hKc hPc (ci := 10) (q0 := 0) rfl rfl, fun U hU hW => ⟨rfl, by rw [hU]; exact hPc, va_K.moved hW.alike hKc⟩⟩ rfl rfl hl.1 rfl (lv_room (Nat.le_of_ble_eq_true rfl)) dX11_choose_25 ⟨(Nat.le_of_ble_eq_true rfl), (Nat.le_of_ble_eq_true rfl)⟩)) (fun r_3 hr_3 => ?_)
  subst hr_3
  refine W.eq (g2 := F0 m 28 ls [.null]) rfl ?_
  refine lv_astoreN (lv' := [(6, .null), (5, .null), (4, .null), (0, .ref x), (1, .int i), (2, .int j), (3, .int k)]) hx hb dX11_choose_28 hl (by decide) rfl (fun ls hl => ?_)
  refine lv_aloadN hx hb dX11_choose_30 (lv_at hl 2 rfl) ?_
  refine lv_ifnullN (tgt := 45) hx hb dX11_choose_32 (by decide) ?_
  exact xw_throw (E := "java/lang/IndexOutOfBoundsException") (text := "no such node") (ik := 86) (is := 190) (ic := 90) hx hb hlt hown (by decide +kernel) (by decide +kernel) (hts (.classLink RX11 86 "java/lang/IndexOutOfBoundsException") (by decide +kernel)) (hts (.initialized "java/lang/IndexOutOfBoundsException") (by decide +kernel)) (by decide +kernel) (fun w h => hts w (List.mem_cons_of_mem _ (List.mem_append_right _ (List.mem_append_right _ (List.mem_append_right _ (List.mem_append_left _ h)))))) xw_bIOB xw_gIOB hX hS (by rw [hml]; exact hl.1) dX11_choose_45 dX11_choose_48 dX11_choose_49 dX11_choose_51 dX11_choose_54 hno (Nat.le_of_ble_eq_true rfl) (Nat.le_of_ble_eq_true rfl) (Nat.le_of_ble_eq_true rfl) (Nat.le_of_ble_eq_true rfl) hlocks (fun t h1 h2 => ⟨(), trivial, rfl, h2⟩) hS.2.2 (Nat.le_of_ble_eq_true rfl) (Nat.le_of_ble_eq_true rfl)

def wz_X11_call : List Cond := .code yX11_call cX11_call 9 (some .int) :: ([.fieldLink RX11 10 "Sequencepoint" "program" "LSequencepoint$Program;", .classLink RX11 86 "java/lang/IndexOutOfBoundsException", .initialized "java/lang/IndexOutOfBoundsException"] ++ (wsX110 ++ ((wsV RX11 122 RX7 yX7_functionAt wz_X7_functionAt) ++ ((wsV RX11 186 RX7 yX7_nodeAt wz_X7_nodeAt) ++ (((vx_atS RX11 90 "java/lang/IndexOutOfBoundsException" xw_N).filter goodWord) ++ [])))))
set_option maxHeartbeats 4000000 in
set_option maxRecDepth 100000 in
theorem z_X11_call (l : Launch) (hlt : l.stackTraces = false) (dC : Nat → ClassId) (dI : Nat → Nat → Nat) (x : Nat) (pr : Nat) (op : Nat) (ma : Nat) (la : Nat) (tr : Nat) (oc : Nat) (av : Nat) (af : Nat) (ab : Nat) (an : Nat) (at_ : Nat) (i : Int32) (j : Int32) (k : Int32) (sz : Nat) : vx_Met l yX11_call wz_X11_call ({ frames := 6, cells := 1, slots := 6, locals := 100 }) (va_Pc [.ref x, .int i, .int j, .int k] (fun U => U.heap.size = sz ∧ va_P (dC, dI) vwCl [(x, .inr (13, [.ref pr, .ref op, .ref ma, .ref la, .ref tr, .ref oc, .long 0])), (pr, .inr (10, [.ref av, .ref af, .ref ab, .ref an, .ref at_, .int 0, .int 0, .int 0, .int 0]))] U.heap ∧ va_K (dC, dI) vwCl [] U ∧ va_D (fun _ => True) [(x, .inr (13, [.ref pr, .ref op, .ref ma, .ref la, .ref tr, .ref oc, .long 0])), (pr, .inr (10, [.ref av, .ref af, .ref ab, .ref an, .ref at_, .int 0, .int 0, .int 0, .int 0]))] ∧ xw (va_A [(x, .inr (13, [.ref pr, .ref op, .ref ma, .ref la, .ref tr, .ref oc, .long 0])), (pr, .inr (10, [.ref av, .ref af, .ref ab, .ref an, .ref at_, .int 0, .int 0, .int 0, .int 0]))] sz) U U.heap)) (va_Qi (fun (r : Int32) (_ : Unit) => "java/lang/IndexOutOfBoundsException" = "" ∧ True) (fun _ t => True) (va_A [(x, .inr (13, [.ref pr, .ref op, .ref ma, .ref la, .ref tr, .ref oc, .long 0])), (pr, .inr (10, [.ref av, .ref af, .ref ab, .ref an, .ref at_, .int 0, .int 0, .int 0, .int 0]))] sz)) (vx_X (fun _ : Unit => True) (fun E _ _ => E = "java/lang/IndexOutOfBoundsException") (va_A [(x, .inr (13, [.ref pr, .ref op, .ref ma, .ref la, .ref tr, .ref oc, .long 0])), (pr, .inr (10, [.ref av, .ref af, .ref ab, .ref an, .ref at_, .int 0, .int 0, .int 0, .int 0]))] sz)) 1 6 (va_A [(x, .inr (13, [.ref pr, .ref op, .ref ma, .ref la, .ref tr, .ref oc, .long 0])), (pr, .inr (10, [.ref av, .ref af, .ref ab, .ref an, .ref at_, .int 0, .int 0, .int 0, .int 0]))] sz) := by
  refine vx_ofW (cc := cX11_call) (maxL := 9) (ret := (some .int)) (by decide +kernel) rfl ?_
  intro p e s m args below meth c s₁ B hml hno hv
  obtain ⟨rfl, hsz, hP, hK, hD0, hX⟩ := hv
  have hx := B.exec
  have hb := B.bytes
  have hr := B.returns
  have hts := atoms_spec (ws := wz_X11_call) B.pre
  have hown : s.vm.findClass RX11 = some m.cls := findClass_of_methodNamed B.named
  have hlocks := B.notSynchronized
  subst hsz
  have hD := hD0.self (sz := s.heap.size)
  generalize hAe : va_A [(x, .inr (13, [.ref pr, .ref op, .ref ma, .ref la, .ref tr, .ref oc, .long 0])), (pr, .inr (10, [.ref av, .ref af, .ref ab, .ref an, .ref at_, .int 0, .int 0, .int 0, .int 0]))] s.heap.size = A at hD hX ⊢
  have hA : ∀ q : Nat, s.heap.size ≤ q → A q := fun q h => by rw [← hAe]; exact Or.inr h
  have hS : va_S A s.heap s.heap [] := va_S.rf
  have hP : va_P (dC, dI) vwCl [(x, .inr (13, [.ref pr, .ref op, .ref ma, .ref la, .ref tr, .ref oc, .long 0])), (pr, .inr (10, [.ref av, .ref af, .ref ab, .ref an, .ref at_, .int 0, .int 0, .int 0, .int 0]))] s.heap := hP
  have hl := lv_entry ([.ref x, .int i, .int j, .int k]) (n := 9) (Nat.le_of_ble_eq_true rfl)
  rw [lg_entry_eq]
  generalize (lg_sl ([.ref x, .int i, .int j, .int k]) ++ List.replicate (9 - (lg_sl ([.ref x, .int i, .int j, .int k])).length) Slot.unset).toArray = ls at hl ⊢
  have hl : lv_has ls 9 [(0, .ref x), (1, .int i), (2, .int j), (3, .int k)] := hl
  refine lv_aload_n hx hb dX11_call_0 rfl (lv_at hl 0 rfl) ?_
  refine va_get (D := (dC, dI)) (ci := 13) (v := .ref pr) (C := RX11) (T := TX11) (N := 7) hx hb hts (fun w h => (List.mem_cons_of_mem _ (List.mem_append_right _ (List.mem_append_left _ h)))) hown hK hP 0 rfl rfl 0 (by decide) (hts (.fieldLink RX11 10 "Sequencepoint" "program" "LSequencepoint$Program;") (by decide +kernel)) (fun _ h9 => h9) rfl dX11_call_1 ?_
  refine lv_iload_n hx hb dX11_call_4 rfl (lv_at hl 1 rfl) ?_
  have hPc := hP.sub (ws' := [(pr, .inr (10, [.ref av, .ref af, .ref ab, .ref an, .ref at_, .int 0, .int 0, .int 0, .int 0]))]) [1] rfl
  have hKc := hK.sub (tys' := []) [] rfl
  refine va_csq (va_Run.run (va_runV (As := [.int i]) (rest := []) ⟨hx, hb, hml, hown, hts⟩ (z_X7_functionAt l dC dI pr av af ab an at_ i) (cwV 1 hts (goodIn_sub (ws := wsV RX11 122 RX7 yX7_functionAt wz_X7_functionAt) (fun w h => (List.mem_cons_of_mem _ (List.mem_append_right _ (List.mem_append_right _ (List.mem_append_left _ h))))) (by decide +kernel)) rfl rfl rfl (by decide +kernel) ⟨Nat.le_of_ble_eq_true rfl, Nat.le_of_ble_eq_true rfl⟩) ⟨fun a U g mk q => by obtain ⟨q0, qP, qK⟩ := q; exact ⟨q0, qP, va_K.moved (u := U) (U := U.calling g mk a) (Vm.Alike.refl U.vm) qK⟩, va_recv hKc hPc (ci := 10) (q0 := 0) rfl rfl, fun U hU hW => ⟨rfl, by rw [hU]; exact hPc, va_K.moved hW.alike hKc⟩⟩ rfl rfl hl.1 rfl (lv_room (Nat.le_of_ble_eq_true rfl)) dX11_call_5 ⟨(Nat.le_of_ble_eq_true rfl), (Nat.le_of_ble_eq_true rfl)⟩)) (fun r_1 hr_1 => ?_)
  subst hr_1
  refine W.eq (g2 := F0 m 8 ls [.null]) rfl ?_
  refine lv_astoreN (lv' := [(4, .null), (0, .ref x), (1, .int i), (2, .int j), (3, .int k)]) hx hb dX11_call_8 hl (by decide) rfl (fun ls hl => ?_)
  refine lv_aload_n hx hb dX11_call_10 rfl (lv_at hl 1 rfl) ?_
  refine va_get (D := (dC, dI)) (ci := 13) (v := .ref pr) (C := RX11) (T := TX11) (N := 7) hx hb hts (fun w h => (List.mem_cons_of_mem _ (List.mem_append_right _ (List.mem_append_left _ h)))) hown hK hP 0 rfl rfl 0 (by decide) (hts (.fieldLink RX11 10 "Sequencepoint" "program" "LSequencepoint$Program;") (by decide +kernel)) (fun _ h9 => h9) rfl dX11_call_11 ?_
  refine lv_iload_n hx hb dX11_call_14 rfl (lv_at hl 3 rfl) ?_
  have hPc := hP.sub (ws' := [(pr, .inr (10, [.ref av, .ref af, .ref ab, .ref an, .ref at_, .int 0, .int 0, .int 0, .int 0]))]) [1] rfl
  have hKc := hK.sub (tys' := []) [] rfl
  refine va_csq (va_Run.run (va_runV (As := [.int j]) (rest := []) ⟨hx, hb, hml, hown, hts⟩ (z_X7_nodeAt l dC dI pr av af ab an at_ j) (cwV 1 hts (goodIn_sub (ws := wsV RX11 186 RX7 yX7_nodeAt wz_X7_nodeAt) (fun w h => (List.mem_cons_of_mem _ (List.mem_append_right _ (List.mem_append_right _ (List.mem_append_right _ (List.mem_append_left _ h)))))) (by decide +kernel)) rfl rfl rfl (by decide +kernel) ⟨Nat.le_of_ble_eq_true rfl, Nat.le_of_ble_eq_true rfl⟩) ⟨fun a U g mk q => by obtain ⟨q0, qP, qK⟩ := q; exact ⟨q0, qP, va_K.moved (u := U) (U := U.calling g mk a) (Vm.Alike.refl U.vm) qK⟩, va_recv hKc hPc (ci := 10) (q0 := 0) rfl rfl, fun U hU hW => ⟨rfl, by rw [hU]; exact hPc, va_K.moved hW.alike hKc⟩⟩ rfl rfl hl.1 rfl (lv_room (Nat.le_of_ble_eq_true rfl)) dX11_call_15 ⟨(Nat.le_of_ble_eq_true rfl), (Nat.le_of_ble_eq_true rfl)⟩)) (fun r_2 hr_2 => ?_)
  subst hr_2
  refine W.eq (g2 := F0 m 18 ls [.null]) rfl ?_
  refine lv_astoreN (lv' := [(5, .null), (4, .null), (0, .ref x), (1, .int i), (2, .int j), (3, .int k)]) hx hb dX11_call_18 hl (by decide) rfl (fun ls hl => ?_)
  refine lv_aload_n hx hb dX11_call_20 rfl (lv_at hl 2 rfl) ?_
  refine va_get (D := (dC, dI)) (ci := 13) (v := .ref pr) (C := RX11) (T := TX11) (N := 7) hx hb hts (fun w h => (List.mem_cons_of_mem _ (List.mem_append_right _ (List.mem_append_left _ h)))) hown hK hP 0 rfl rfl 0 (by decide) (hts (.fieldLink RX11 10 "Sequencepoint" "program" "LSequencepoint$Program;") (by decide +kernel)) (fun _ h9 => h9) rfl dX11_call_21 ?_
  refine lv_iload_n hx hb dX11_call_24 rfl (lv_at hl 5 rfl) ?_
  have hPc := hP.sub (ws' := [(pr, .inr (10, [.ref av, .ref af, .ref ab, .ref an, .ref at_, .int 0, .int 0, .int 0, .int 0]))]) [1] rfl
  have hKc := hK.sub (tys' := []) [] rfl
  refine va_csq (va_Run.run (va_runV (As := [.int k]) (rest := []) ⟨hx, hb, hml, hown, hts⟩ (z_X7_nodeAt l dC dI pr av af ab an at_ k) (cwV 1 hts (goodIn_sub (ws := wsV RX11 186 RX7 yX7_nodeAt wz_X7_nodeAt) (fun w h => (List.mem_cons_of_mem _ (List.mem_append_right _ (List.mem_append_right _ (List.mem_append_right _ (List.mem_append_left _ h)))))) (by decide +kernel)) rfl rfl rfl (by decide +kernel) ⟨Nat.le_of_ble_eq_true rfl, Nat.le_of_ble_eq_true rfl⟩) ⟨fun a U g mk q => by obtain ⟨q0, qP, qK⟩ := q; exact ⟨q0, qP, va_K.moved (u := U) (U := U.calling g mk a) (Vm.Alike.refl U.vm) qK⟩, va_recv hKc hPc (ci := 10) (q0 := 0) rfl rfl, fun U hU hW => ⟨rfl, by rw [hU]; exact hPc, va_K.moved hW.alike hKc⟩⟩ rfl rfl hl.1 rfl (lv_room (Nat.le_of_ble_eq_true rfl)) dX11_call_25 ⟨(Nat.le_of_ble_eq_true rfl), (Nat.le_of_ble_eq_true rfl)⟩)) (fun r_3 hr_3 => ?_)
  subst hr_3
  refine W.eq (g2 := F0 m 28 ls [.null]) rfl ?_
  refine lv_astoreN (lv' := [(6, .null), (5, .null), (4, .null), (0, .ref x), (1, .int i), (2, .int j), (3, .int k)]) hx hb dX11_call_28 hl (by decide) rfl (fun ls hl => ?_)
  refine lv_aloadN hx hb dX11_call_30 (lv_at hl 2 rfl) ?_
  refine lv_ifnullN (tgt := 55) hx hb dX11_call_32 (by decide) ?_
  exact xw_throw (E := "java/lang/IndexOutOfBoundsException") (text := "no such function or node") (ik := 86) (is := 223) (ic := 90) hx hb hlt hown (by decide +kernel) (by decide +kernel) (hts (.classLink RX11 86 "java/lang/IndexOutOfBoundsException") (by decide +kernel)) (hts (.initialized "java/lang/IndexOutOfBoundsException") (by decide +kernel)) (by decide +kernel) (fun w h => hts w (List.mem_cons_of_mem _ (List.mem_append_right _ (List.mem_append_right _ (List.mem_append_right _ (List.mem_append_right _ (List.mem_append_left _ h))))))) xw_bIOB xw_gIOB hX hS (by rw [hml]; exact hl.1) dX11_call_55 dX11_call_58 dX11_call_59 dX11_call_61 dX11_call_64 hno (Nat.le_of_ble_eq_true rfl) (Nat.le_of_ble_eq_true rfl) (Nat.le_of_ble_eq_true rfl) (Nat.le_of_ble_eq_true rfl) hlocks (fun t h1 h2 => ⟨(), trivial, rfl, h2⟩) hS.2.2 (Nat.le_of_ble_eq_true rfl) (Nat.le_of_ble_eq_true rfl)

def wz_X11_declare : List Cond := .code yX11_declare cX11_declare 3 (some .int) :: ([.fieldLink RX11 10 "Sequencepoint" "program" "LSequencepoint$Program;", .classLink RX11 86 "java/lang/IndexOutOfBoundsException", .initialized "java/lang/IndexOutOfBoundsException"] ++ (wsX110 ++ ((wsV RX11 82 RX7 yX7_variableAt wz_X7_variableAt) ++ (((vx_atS RX11 90 "java/lang/IndexOutOfBoundsException" xw_N).filter goodWord) ++ []))))
set_option maxHeartbeats 4000000 in
set_option maxRecDepth 100000 in
theorem z_X11_declare (l : Launch) (hlt : l.stackTraces = false) (dC : Nat → ClassId) (dI : Nat → Nat → Nat) (x : Nat) (pr : Nat) (op : Nat) (ma : Nat) (la : Nat) (tr : Nat) (oc : Nat) (av : Nat) (af : Nat) (ab : Nat) (an : Nat) (at_ : Nat) (i : Int32) (sz : Nat) : vx_Met l yX11_declare wz_X11_declare ({ frames := 6, cells := 1, slots := 6, locals := 100 }) (va_Pc [.ref x, .int i] (fun U => U.heap.size = sz ∧ va_P (dC, dI) vwCl [(x, .inr (13, [.ref pr, .ref op, .ref ma, .ref la, .ref tr, .ref oc, .long 0])), (pr, .inr (10, [.ref av, .ref af, .ref ab, .ref an, .ref at_, .int 0, .int 0, .int 0, .int 0]))] U.heap ∧ va_K (dC, dI) vwCl [] U ∧ va_D (fun _ => True) [(x, .inr (13, [.ref pr, .ref op, .ref ma, .ref la, .ref tr, .ref oc, .long 0])), (pr, .inr (10, [.ref av, .ref af, .ref ab, .ref an, .ref at_, .int 0, .int 0, .int 0, .int 0]))] ∧ xw (va_A [(x, .inr (13, [.ref pr, .ref op, .ref ma, .ref la, .ref tr, .ref oc, .long 0])), (pr, .inr (10, [.ref av, .ref af, .ref ab, .ref an, .ref at_, .int 0, .int 0, .int 0, .int 0]))] sz) U U.heap)) (va_Qi (fun (r : Int32) (_ : Unit) => "java/lang/IndexOutOfBoundsException" = "" ∧ True) (fun _ t => True) (va_A [(x, .inr (13, [.ref pr, .ref op, .ref ma, .ref la, .ref tr, .ref oc, .long 0])), (pr, .inr (10, [.ref av, .ref af, .ref ab, .ref an, .ref at_, .int 0, .int 0, .int 0, .int 0]))] sz)) (vx_X (fun _ : Unit => True) (fun E _ _ => E = "java/lang/IndexOutOfBoundsException") (va_A [(x, .inr (13, [.ref pr, .ref op, .ref ma, .ref la, .ref tr, .ref oc, .long 0])), (pr, .inr (10, [.ref av, .ref af, .ref ab, .ref an, .ref at_, .int 0, .int 0, .int 0, .int 0]))] sz)) 1 6 (va_A [(x, .inr (13, [.ref pr, .ref op, .ref ma, .ref la, .ref tr, .ref oc, .long 0])), (pr, .inr (10, [.ref av, .ref af, .ref ab, .ref an, .ref at_, .int 0, .int 0, .int 0, .int 0]))] sz) := by
  refine vx_ofW (cc := cX11_declare) (maxL := 3) (ret := (some .int)) (by decide +kernel) rfl ?_
  intro p e s m args below meth c s₁ B hml hno hv
  obtain ⟨rfl, hsz, hP, hK, hD0, hX⟩ := hv
  have hx := B.exec
  have hb := B.bytes
  have hr := B.returns
  have hts := atoms_spec (ws := wz_X11_declare) B.pre
  have hown : s.vm.findClass RX11 = some m.cls := findClass_of_methodNamed B.named
  have hlocks := B.notSynchronized
  subst hsz
  have hD := hD0.self (sz := s.heap.size)
  generalize hAe : va_A [(x, .inr (13, [.ref pr, .ref op, .ref ma, .ref la, .ref tr, .ref oc, .long 0])), (pr, .inr (10, [.ref av, .ref af, .ref ab, .ref an, .ref at_, .int 0, .int 0, .int 0, .int 0]))] s.heap.size = A at hD hX ⊢
  have hA : ∀ q : Nat, s.heap.size ≤ q → A q := fun q h => by rw [← hAe]; exact Or.inr h
  have hS : va_S A s.heap s.heap [] := va_S.rf
  have hP : va_P (dC, dI) vwCl [(x, .inr (13, [.ref pr, .ref op, .ref ma, .ref la, .ref tr, .ref oc, .long 0])), (pr, .inr (10, [.ref av, .ref af, .ref ab, .ref an, .ref at_, .int 0, .int 0, .int 0, .int 0]))] s.heap := hP
  have hl := lv_entry ([.ref x, .int i]) (n := 3) (Nat.le_of_ble_eq_true rfl)
  rw [lg_entry_eq]
  generalize (lg_sl ([.ref x, .int i]) ++ List.replicate (3 - (lg_sl ([.ref x, .int i])).length) Slot.unset).toArray = ls at hl ⊢
  have hl : lv_has ls 3 [(0, .ref x), (1, .int i)] := hl
  refine lv_aload_n hx hb dX11_declare_0 rfl (lv_at hl 0 rfl) ?_
  refine va_get (D := (dC, dI)) (ci := 13) (v := .ref pr) (C := RX11) (T := TX11) (N := 7) hx hb hts (fun w h => (List.mem_cons_of_mem _ (List.mem_append_right _ (List.mem_append_left _ h)))) hown hK hP 0 rfl rfl 0 (by decide) (hts (.fieldLink RX11 10 "Sequencepoint" "program" "LSequencepoint$Program;") (by decide +kernel)) (fun _ h9 => h9) rfl dX11_declare_1 ?_
  refine lv_iload_n hx hb dX11_declare_4 rfl (lv_at hl 1 rfl) ?_
  have hPc := hP.sub (ws' := [(pr, .inr (10, [.ref av, .ref af, .ref ab, .ref an, .ref at_, .int 0, .int 0, .int 0, .int 0]))]) [1] rfl
  have hKc := hK.sub (tys' := []) [] rfl
  refine va_csq (va_Run.run (va_runV (As := [.int i]) (rest := []) ⟨hx, hb, hml, hown, hts⟩ (z_X7_variableAt l dC dI pr av af ab an at_ i) (cwV 1 hts (goodIn_sub (ws := wsV RX11 82 RX7 yX7_variableAt wz_X7_variableAt) (fun w h => (List.mem_cons_of_mem _ (List.mem_append_right _ (List.mem_append_right _ (List.mem_append_left _ h))))) (by decide +kernel)) rfl rfl rfl (by decide +kernel) ⟨Nat.le_of_ble_eq_true rfl, Nat.le_of_ble_eq_true rfl⟩) ⟨fun a U g mk q => by obtain ⟨q0, qP, qK⟩ := q; exact ⟨q0, qP, va_K.moved (u := U) (U := U.calling g mk a) (Vm.Alike.refl U.vm) qK⟩, va_recv hKc hPc (ci := 10) (q0 := 0) rfl rfl, fun U hU hW => ⟨rfl, by rw [hU]; exact hPc, va_K.moved hW.alike hKc⟩⟩ rfl rfl hl.1 rfl (lv_room (Nat.le_of_ble_eq_true rfl)) dX11_declare_5 ⟨(Nat.le_of_ble_eq_true rfl), (Nat.le_of_ble_eq_true rfl)⟩)) (fun r_1 hr_1 => ?_)
  subst hr_1
  refine W.eq (g2 := F0 m 8 ls [.null]) rfl ?_
  refine lv_astore_nN (lv' := [(2, .null), (0, .ref x), (1, .int i)]) hx hb dX11_declare_8 rfl hl (by decide) rfl (fun ls hl => ?_)
  refine lv_aload_nN hx hb dX11_declare_9 rfl (lv_at hl 0 rfl) ?_
  refine lv_ifnonnullN hx hb dX11_declare_10 ?_
  exact xw_throw (E := "java/lang/IndexOutOfBoundsException") (text := "no such variable") (ik := 86) (is := 88) (ic := 90) hx hb hlt hown (by decide +kernel) (by decide +kernel) (hts (.classLink RX11 86 "java/lang/IndexOutOfBoundsException") (by decide +kernel)) (hts (.initialized "java/lang/IndexOutOfBoundsException") (by decide +kernel)) (by decide +kernel) (fun w h => hts w (List.mem_cons_of_mem _ (List.mem_append_right _ (List.mem_append_right _ (List.mem_append_right _ (List.mem_append_left _ h)))))) xw_bIOB xw_gIOB hX hS (by rw [hml]; exact hl.1) dX11_declare_13 dX11_declare_16 dX11_declare_17 dX11_declare_19 dX11_declare_22 hno (Nat.le_of_ble_eq_true rfl) (Nat.le_of_ble_eq_true rfl) (Nat.le_of_ble_eq_true rfl) (Nat.le_of_ble_eq_true rfl) hlocks (fun t h1 h2 => ⟨(), trivial, rfl, h2⟩) hS.2.2 (Nat.le_of_ble_eq_true rfl) (Nat.le_of_ble_eq_true rfl)

def wz_X11_branch : List Cond := .code yX11_branch cX11_branch 7 (some .int) :: ([.fieldLink RX11 10 "Sequencepoint" "program" "LSequencepoint$Program;", .classLink RX11 86 "java/lang/IndexOutOfBoundsException", .initialized "java/lang/IndexOutOfBoundsException"] ++ (wsX110 ++ ((wsV RX11 186 RX7 yX7_nodeAt wz_X7_nodeAt) ++ ((wsV RX11 126 RX7 yX7_statementAt wz_X7_statementAt) ++ (((vx_atS RX11 90 "java/lang/IndexOutOfBoundsException" xw_N).filter goodWord) ++ [])))))
set_option maxHeartbeats 4000000 in
set_option maxRecDepth 100000 in
theorem z_X11_branch (l : Launch) (hlt : l.stackTraces = false) (dC : Nat → ClassId) (dI : Nat → Nat → Nat) (x : Nat) (pr : Nat) (op : Nat) (ma : Nat) (la : Nat) (tr : Nat) (oc : Nat) (av : Nat) (af : Nat) (ab : Nat) (an : Nat) (at_ : Nat) (i : Int32) (j : Int32) (k : Int32) (sz : Nat) : vx_Met l yX11_branch wz_X11_branch ({ frames := 6, cells := 1, slots := 6, locals := 100 }) (va_Pc [.ref x, .int i, .int j, .int k] (fun U => U.heap.size = sz ∧ va_P (dC, dI) vwCl [(x, .inr (13, [.ref pr, .ref op, .ref ma, .ref la, .ref tr, .ref oc, .long 0])), (pr, .inr (10, [.ref av, .ref af, .ref ab, .ref an, .ref at_, .int 0, .int 0, .int 0, .int 0]))] U.heap ∧ va_K (dC, dI) vwCl [] U ∧ va_D (fun _ => True) [(x, .inr (13, [.ref pr, .ref op, .ref ma, .ref la, .ref tr, .ref oc, .long 0])), (pr, .inr (10, [.ref av, .ref af, .ref ab, .ref an, .ref at_, .int 0, .int 0, .int 0, .int 0]))] ∧ xw (va_A [(x, .inr (13, [.ref pr, .ref op, .ref ma, .ref la, .ref tr, .ref oc, .long 0])), (pr, .inr (10, [.ref av, .ref af, .ref ab, .ref an, .ref at_, .int 0, .int 0, .int 0, .int 0]))] sz) U U.heap)) (va_Qi (fun (r : Int32) (_ : Unit) => "java/lang/IndexOutOfBoundsException" = "" ∧ True) (fun _ t => True) (va_A [(x, .inr (13, [.ref pr, .ref op, .ref ma, .ref la, .ref tr, .ref oc, .long 0])), (pr, .inr (10, [.ref av, .ref af, .ref ab, .ref an, .ref at_, .int 0, .int 0, .int 0, .int 0]))] sz)) (vx_X (fun _ : Unit => True) (fun E _ _ => E = "java/lang/IndexOutOfBoundsException") (va_A [(x, .inr (13, [.ref pr, .ref op, .ref ma, .ref la, .ref tr, .ref oc, .long 0])), (pr, .inr (10, [.ref av, .ref af, .ref ab, .ref an, .ref at_, .int 0, .int 0, .int 0, .int 0]))] sz)) 1 6 (va_A [(x, .inr (13, [.ref pr, .ref op, .ref ma, .ref la, .ref tr, .ref oc, .long 0])), (pr, .inr (10, [.ref av, .ref af, .ref ab, .ref an, .ref at_, .int 0, .int 0, .int 0, .int 0]))] sz) := by
  refine vx_ofW (cc := cX11_branch) (maxL := 7) (ret := (some .int)) (by decide +kernel) rfl ?_
  intro p e s m args below meth c s₁ B hml hno hv
  obtain ⟨rfl, hsz, hP, hK, hD0, hX⟩ := hv
  have hx := B.exec
  have hb := B.bytes
  have hr := B.returns
  have hts := atoms_spec (ws := wz_X11_branch) B.pre
  have hown : s.vm.findClass RX11 = some m.cls := findClass_of_methodNamed B.named
  have hlocks := B.notSynchronized
  subst hsz
  have hD := hD0.self (sz := s.heap.size)
  generalize hAe : va_A [(x, .inr (13, [.ref pr, .ref op, .ref ma, .ref la, .ref tr, .ref oc, .long 0])), (pr, .inr (10, [.ref av, .ref af, .ref ab, .ref an, .ref at_, .int 0, .int 0, .int 0, .int 0]))] s.heap.size = A at hD hX ⊢
  have hA : ∀ q : Nat, s.heap.size ≤ q → A q := fun q h => by rw [← hAe]; exact Or.inr h
  have hS : va_S A s.heap s.heap [] := va_S.rf
  have hP : va_P (dC, dI) vwCl [(x, .inr (13, [.ref pr, .ref op, .ref ma, .ref la, .ref tr, .ref oc, .long 0])), (pr, .inr (10, [.ref av, .ref af, .ref ab, .ref an, .ref at_, .int 0, .int 0, .int 0, .int 0]))] s.heap := hP
  have hl := lv_entry ([.ref x, .int i, .int j, .int k]) (n := 7) (Nat.le_of_ble_eq_true rfl)
  rw [lg_entry_eq]
  generalize (lg_sl ([.ref x, .int i, .int j, .int k]) ++ List.replicate (7 - (lg_sl ([.ref x, .int i, .int j, .int k])).length) Slot.unset).toArray = ls at hl ⊢
  have hl : lv_has ls 7 [(0, .ref x), (1, .int i), (2, .int j), (3, .int k)] := hl
  refine lv_aload_n hx hb dX11_branch_0 rfl (lv_at hl 0 rfl) ?_
  refine va_get (D := (dC, dI)) (ci := 13) (v := .ref pr) (C := RX11) (T := TX11) (N := 7) hx hb hts (fun w h => (List.mem_cons_of_mem _ (List.mem_append_right _ (List.mem_append_left _ h)))) hown hK hP 0 rfl rfl 0 (by decide) (hts (.fieldLink RX11 10 "Sequencepoint" "program" "LSequencepoint$Program;") (by decide +kernel)) (fun _ h9 => h9) rfl dX11_branch_1 ?_
  refine lv_iload_n hx hb dX11_branch_4 rfl (lv_at hl 1 rfl) ?_
  have hPc := hP.sub (ws' := [(pr, .inr (10, [.ref av, .ref af, .ref ab, .ref an, .ref at_, .int 0, .int 0, .int 0, .int 0]))]) [1] rfl
  have hKc := hK.sub (tys' := []) [] rfl
  refine va_csq (va_Run.run (va_runV (As := [.int i]) (rest := []) ⟨hx, hb, hml, hown, hts⟩ (z_X7_nodeAt l dC dI pr av af ab an at_ i) (cwV 1 hts (goodIn_sub (ws := wsV RX11 186 RX7 yX7_nodeAt wz_X7_nodeAt) (fun w h => (List.mem_cons_of_mem _ (List.mem_append_right _ (List.mem_append_right _ (List.mem_append_left _ h))))) (by decide +kernel)) rfl rfl rfl (by decide +kernel) ⟨Nat.le_of_ble_eq_true rfl, Nat.le_of_ble_eq_true rfl⟩) ⟨fun a U g mk q => by obtain ⟨q0, qP, qK⟩ := q; exact ⟨q0, qP, va_K.moved (u := U) (U := U.calling g mk a) (Vm.Alike.refl U.vm) qK⟩, va_recv hKc hPc (ci := 10) (q0 := 0) rfl rfl, fun U hU hW => ⟨rfl, by rw [hU]; exact hPc, va_K.moved hW.alike hKc⟩⟩ rfl rfl hl.1 rfl (lv_room (Nat.le_of_ble_eq_true rfl)) dX11_branch_5 ⟨(Nat.le_of_ble_eq_true rfl), (Nat.le_of_ble_eq_true rfl)⟩)) (fun r_1 hr_1 => ?_)
  subst hr_1
  refine W.eq (g2 := F0 m 8 ls [.null]) rfl ?_
  refine lv_astoreN (lv' := [(4, .null), (0, .ref x), (1, .int i), (2, .int j), (3, .int k)]) hx hb dX11_branch_8 hl (by decide) rfl (fun ls hl => ?_)
  refine lv_aload_n hx hb dX11_branch_10 rfl (lv_at hl 1 rfl) ?_
  refine va_get (D := (dC, dI)) (ci := 13) (v := .ref pr) (C := RX11) (T := TX11) (N := 7) hx hb hts (fun w h => (List.mem_cons_of_mem _ (List.mem_append_right _ (List.mem_append_left _ h)))) hown hK hP 0 rfl rfl 0 (by decide) (hts (.fieldLink RX11 10 "Sequencepoint" "program" "LSequencepoint$Program;") (by decide +kernel)) (fun _ h9 => h9) rfl dX11_branch_11 ?_
  refine lv_iload_n hx hb dX11_branch_14 rfl (lv_at hl 3 rfl) ?_
  have hPc := hP.sub (ws' := [(pr, .inr (10, [.ref av, .ref af, .ref ab, .ref an, .ref at_, .int 0, .int 0, .int 0, .int 0]))]) [1] rfl
  have hKc := hK.sub (tys' := []) [] rfl
  refine va_csq (va_Run.run (va_runV (As := [.int j]) (rest := []) ⟨hx, hb, hml, hown, hts⟩ (z_X7_statementAt l dC dI pr av af ab an at_ j) (cwV 1 hts (goodIn_sub (ws := wsV RX11 126 RX7 yX7_statementAt wz_X7_statementAt) (fun w h => (List.mem_cons_of_mem _ (List.mem_append_right _ (List.mem_append_right _ (List.mem_append_right _ (List.mem_append_left _ h)))))) (by decide +kernel)) rfl rfl rfl (by decide +kernel) ⟨Nat.le_of_ble_eq_true rfl, Nat.le_of_ble_eq_true rfl⟩) ⟨fun a U g mk q => by obtain ⟨q0, qP, qK⟩ := q; exact ⟨q0, qP, va_K.moved (u := U) (U := U.calling g mk a) (Vm.Alike.refl U.vm) qK⟩, va_recv hKc hPc (ci := 10) (q0 := 0) rfl rfl, fun U hU hW => ⟨rfl, by rw [hU]; exact hPc, va_K.moved hW.alike hKc⟩⟩ rfl rfl hl.1 rfl (lv_room (Nat.le_of_ble_eq_true rfl)) dX11_branch_15 ⟨(Nat.le_of_ble_eq_true rfl), (Nat.le_of_ble_eq_true rfl)⟩)) (fun r_2 hr_2 => ?_)
  subst hr_2
  refine W.eq (g2 := F0 m 18 ls [.null]) rfl ?_
  refine lv_astoreN (lv' := [(5, .null), (4, .null), (0, .ref x), (1, .int i), (2, .int j), (3, .int k)]) hx hb dX11_branch_18 hl (by decide) rfl (fun ls hl => ?_)
  refine lv_aload_n hx hb dX11_branch_20 rfl (lv_at hl 2 rfl) ?_
  refine va_get (D := (dC, dI)) (ci := 13) (v := .ref pr) (C := RX11) (T := TX11) (N := 7) hx hb hts (fun w h => (List.mem_cons_of_mem _ (List.mem_append_right _ (List.mem_append_left _ h)))) hown hK hP 0 rfl rfl 0 (by decide) (hts (.fieldLink RX11 10 "Sequencepoint" "program" "LSequencepoint$Program;") (by decide +kernel)) (fun _ h9 => h9) rfl dX11_branch_21 ?_
  refine lv_iload_n hx hb dX11_branch_24 rfl (lv_at hl 5 rfl) ?_
  have hPc := hP.sub (ws' := [(pr, .inr (10, [.ref av, .ref af, .ref ab, .ref an, .ref at_, .int 0, .int 0, .int 0, .int 0]))]) [1] rfl
  have hKc := hK.sub (tys' := []) [] rfl
  refine va_csq (va_Run.run (va_runV (As := [.int k]) (rest := []) ⟨hx, hb, hml, hown, hts⟩ (z_X7_statementAt l dC dI pr av af ab an at_ k) (cwV 1 hts (goodIn_sub (ws := wsV RX11 126 RX7 yX7_statementAt wz_X7_statementAt) (fun w h => (List.mem_cons_of_mem _ (List.mem_append_right _ (List.mem_append_right _ (List.mem_append_right _ (List.mem_append_left _ h)))))) (by decide +kernel)) rfl rfl rfl (by decide +kernel) ⟨Nat.le_of_ble_eq_true rfl, Nat.le_of_ble_eq_true rfl⟩) ⟨fun a U g mk q => by obtain ⟨q0, qP, qK⟩ := q; exact ⟨q0, qP, va_K.moved (u := U) (U := U.calling g mk a) (Vm.Alike.refl U.vm) qK⟩, va_recv hKc hPc (ci := 10) (q0 := 0) rfl rfl, fun U hU hW => ⟨rfl, by rw [hU]; exact hPc, va_K.moved hW.alike hKc⟩⟩ rfl rfl hl.1 rfl (lv_room (Nat.le_of_ble_eq_true rfl)) dX11_branch_25 ⟨(Nat.le_of_ble_eq_true rfl), (Nat.le_of_ble_eq_true rfl)⟩)) (fun r_3 hr_3 => ?_)
  subst hr_3
  refine W.eq (g2 := F0 m 28 ls [.null]) rfl ?_
  refine lv_astoreN (lv' := [(6, .null), (5, .null), (4, .null), (0, .ref x), (1, .int i), (2, .int j), (3, .int k)]) hx hb dX11_branch_28 hl (by decide) rfl (fun ls hl => ?_)
  refine lv_aloadN hx hb dX11_branch_30 (lv_at hl 2 rfl) ?_
  refine lv_ifnullN (tgt := 50) hx hb dX11_branch_32 (by decide) ?_
  exact xw_throwW (E := "java/lang/IndexOutOfBoundsException") (text := "no such node or statement") (ik := 86) (is := 264) (ic := 90) hx hb hlt hown (by decide +kernel) (by decide +kernel) (hts (.classLink RX11 86 "java/lang/IndexOutOfBoundsException") (by decide +kernel)) (hts (.initialized "java/lang/IndexOutOfBoundsException") (by decide +kernel)) (by decide +kernel) (fun w h => hts w (List.mem_cons_of_mem _ (List.mem_append_right _ (List.mem_append_right _ (List.mem_append_right _ (List.mem_append_right _ (List.mem_append_left _ h))))))) xw_bIOB xw_gIOB hX hS (by rw [hml]; exact hl.1) dX11_branch_50 dX11_branch_53 dX11_branch_54 dX11_branch_57 dX11_branch_60 hno (Nat.le_of_ble_eq_true rfl) (Nat.le_of_ble_eq_true rfl) (Nat.le_of_ble_eq_true rfl) (Nat.le_of_ble_eq_true rfl) hlocks (fun t h1 h2 => ⟨(), trivial, rfl, h2⟩) hS.2.2 (Nat.le_of_ble_eq_true rfl) (Nat.le_of_ble_eq_true rfl)

def wz_X11_repeat : List Cond := .code yX11_repeat cX11_repeat 5 (some .int) :: ([.fieldLink RX11 10 "Sequencepoint" "program" "LSequencepoint$Program;", .classLink RX11 86 "java/lang/IndexOutOfBoundsException", .initialized "java/lang/IndexOutOfBoundsException"] ++ (wsX110 ++ ((wsV RX11 186 RX7 yX7_nodeAt wz_X7_nodeAt) ++ ((wsV RX11 126 RX7 yX7_statementAt wz_X7_statementAt) ++ (((vx_atS RX11 90 "java/lang/IndexOutOfBoundsException" xw_N).filter goodWord) ++ [])))))
set_option maxHeartbeats 4000000 in
set_option maxRecDepth 100000 in
theorem z_X11_repeat (l : Launch) (hlt : l.stackTraces = false) (dC : Nat → ClassId) (dI : Nat → Nat → Nat) (x : Nat) (pr : Nat) (op : Nat) (ma : Nat) (la : Nat) (tr : Nat) (oc : Nat) (av : Nat) (af : Nat) (ab : Nat) (an : Nat) (at_ : Nat) (i : Int32) (j : Int32) (sz : Nat) : vx_Met l yX11_repeat wz_X11_repeat ({ frames := 6, cells := 1, slots := 6, locals := 100 }) (va_Pc [.ref x, .int i, .int j] (fun U => U.heap.size = sz ∧ va_P (dC, dI) vwCl [(x, .inr (13, [.ref pr, .ref op, .ref ma, .ref la, .ref tr, .ref oc, .long 0])), (pr, .inr (10, [.ref av, .ref af, .ref ab, .ref an, .ref at_, .int 0, .int 0, .int 0, .int 0]))] U.heap ∧ va_K (dC, dI) vwCl [] U ∧ va_D (fun _ => True) [(x, .inr (13, [.ref pr, .ref op, .ref ma, .ref la, .ref tr, .ref oc, .long 0])), (pr, .inr (10, [.ref av, .ref af, .ref ab, .ref an, .ref at_, .int 0, .int 0, .int 0, .int 0]))] ∧ xw (va_A [(x, .inr (13, [.ref pr, .ref op, .ref ma, .ref la, .ref tr, .ref oc, .long 0])), (pr, .inr (10, [.ref av, .ref af, .ref ab, .ref an, .ref at_, .int 0, .int 0, .int 0, .int 0]))] sz) U U.heap)) (va_Qi (fun (r : Int32) (_ : Unit) => "java/lang/IndexOutOfBoundsException" = "" ∧ True) (fun _ t => True) (va_A [(x, .inr (13, [.ref pr, .ref op, .ref ma, .ref la, .ref tr, .ref oc, .long 0])), (pr, .inr (10, [.ref av, .ref af, .ref ab, .ref an, .ref at_, .int 0, .int 0, .int 0, .int 0]))] sz)) (vx_X (fun _ : Unit => True) (fun E _ _ => E = "java/lang/IndexOutOfBoundsException") (va_A [(x, .inr (13, [.ref pr, .ref op, .ref ma, .ref la, .ref tr, .ref oc, .long 0])), (pr, .inr (10, [.ref av, .ref af, .ref ab, .ref an, .ref at_, .int 0, .int 0, .int 0, .int 0]))] sz)) 1 6 (va_A [(x, .inr (13, [.ref pr, .ref op, .ref ma, .ref la, .ref tr, .ref oc, .long 0])), (pr, .inr (10, [.ref av, .ref af, .ref ab, .ref an, .ref at_, .int 0, .int 0, .int 0, .int 0]))] sz) := by
  refine vx_ofW (cc := cX11_repeat) (maxL := 5) (ret := (some .int)) (by decide +kernel) rfl ?_
  intro p e s m args below meth c s₁ B hml hno hv
  obtain ⟨rfl, hsz, hP, hK, hD0, hX⟩ := hv
  have hx := B.exec
  have hb := B.bytes
  have hr := B.returns
  have hts := atoms_spec (ws := wz_X11_repeat) B.pre
  have hown : s.vm.findClass RX11 = some m.cls := findClass_of_methodNamed B.named
  have hlocks := B.notSynchronized
  subst hsz
  have hD := hD0.self (sz := s.heap.size)
  generalize hAe : va_A [(x, .inr (13, [.ref pr, .ref op, .ref ma, .ref la, .ref tr, .ref oc, .long 0])), (pr, .inr (10, [.ref av, .ref af, .ref ab, .ref an, .ref at_, .int 0, .int 0, .int 0, .int 0]))] s.heap.size = A at hD hX ⊢
  have hA : ∀ q : Nat, s.heap.size ≤ q → A q := fun q h => by rw [← hAe]; exact Or.inr h
  have hS : va_S A s.heap s.heap [] := va_S.rf
  have hP : va_P (dC, dI) vwCl [(x, .inr (13, [.ref pr, .ref op, .ref ma, .ref la, .ref tr, .ref oc, .long 0])), (pr, .inr (10, [.ref av, .ref af, .ref ab, .ref an, .ref at_, .int 0, .int 0, .int 0, .int 0]))] s.heap := hP
  have hl := lv_entry ([.ref x, .int i, .int j]) (n := 5) (Nat.le_of_ble_eq_true rfl)
  rw [lg_entry_eq]
  generalize (lg_sl ([.ref x, .int i, .int j]) ++ List.replicate (5 - (lg_sl ([.ref x, .int i, .int j])).length) Slot.unset).toArray = ls at hl ⊢
  have hl : lv_has ls 5 [(0, .ref x), (1, .int i), (2, .int j)] := hl
  refine lv_aload_n hx hb dX11_repeat_0 rfl (lv_at hl 0 rfl) ?_
  refine va_get (D := (dC, dI)) (ci := 13) (v := .ref pr) (C := RX11) (T := TX11) (N := 7) hx hb hts (fun w h => (List.mem_cons_of_mem _ (List.mem_append_right _ (List.mem_append_left _ h)))) hown hK hP 0 rfl rfl 0 (by decide) (hts (.fieldLink RX11 10 "Sequencepoint" "program" "LSequencepoint$Program;") (by decide +kernel)) (fun _ h9 => h9) rfl dX11_repeat_1 ?_
  refine lv_iload_n hx hb dX11_repeat_4 rfl (lv_at hl 1 rfl) ?_
  have hPc := hP.sub (ws' := [(pr, .inr (10, [.ref av, .ref af, .ref ab, .ref an, .ref at_, .int 0, .int 0, .int 0, .int 0]))]) [1] rfl
  have hKc := hK.sub (tys' := []) [] rfl
  refine va_csq (va_Run.run (va_runV (As := [.int i]) (rest := []) ⟨hx, hb, hml, hown, hts⟩ (z_X7_nodeAt l dC dI pr av af ab an at_ i) (cwV 1 hts (goodIn_sub (ws := wsV RX11 186 RX7 yX7_nodeAt wz_X7_nodeAt) (fun w h => (List.mem_cons_of_mem _ (List.mem_append_right _ (List.mem_append_right _ (List.mem_append_left _ h))))) (by decide +kernel)) rfl rfl rfl (by decide +kernel) ⟨Nat.le_of_ble_eq_true rfl, Nat.le_of_ble_eq_true rfl⟩) ⟨fun a U g mk q => by obtain ⟨q0, qP, qK⟩ := q; exact ⟨q0, qP, va_K.moved (u := U) (U := U.calling g mk a) (Vm.Alike.refl U.vm) qK⟩, va_recv hKc hPc (ci := 10) (q0 := 0) rfl rfl, fun U hU hW => ⟨rfl, by rw [hU]; exact hPc, va_K.moved hW.alike hKc⟩⟩ rfl rfl hl.1 rfl (lv_room (Nat.le_of_ble_eq_true rfl)) dX11_repeat_5 ⟨(Nat.le_of_ble_eq_true rfl), (Nat.le_of_ble_eq_true rfl)⟩)) (fun r_1 hr_1 => ?_)
  subst hr_1
  refine W.eq (g2 := F0 m 8 ls [.null]) rfl ?_
  refine lv_astore_nN (lv' := [(3, .null), (0, .ref x), (1, .int i), (2, .int j)]) hx hb dX11_repeat_8 rfl hl (by decide) rfl (fun ls hl => ?_)
  refine lv_aload_n hx hb dX11_repeat_9 rfl (lv_at hl 1 rfl) ?_
  refine va_get (D := (dC, dI)) (ci := 13) (v := .ref pr) (C := RX11) (T := TX11) (N := 7) hx hb hts (fun w h => (List.mem_cons_of_mem _ (List.mem_append_right _ (List.mem_append_left _ h)))) hown hK hP 0 rfl rfl 0 (by decide) (hts (.fieldLink RX11 10 "Sequencepoint" "program" "LSequencepoint$Program;") (by decide +kernel)) (fun _ h9 => h9) rfl dX11_repeat_10 ?_
  refine lv_iload_n hx hb dX11_repeat_13 rfl (lv_at hl 3 rfl) ?_
  have hPc := hP.sub (ws' := [(pr, .inr (10, [.ref av, .ref af, .ref ab, .ref an, .ref at_, .int 0, .int 0, .int 0, .int 0]))]) [1] rfl
  have hKc := hK.sub (tys' := []) [] rfl
  refine va_csq (va_Run.run (va_runV (As := [.int j]) (rest := []) ⟨hx, hb, hml, hown, hts⟩ (z_X7_statementAt l dC dI pr av af ab an at_ j) (cwV 1 hts (goodIn_sub (ws := wsV RX11 126 RX7 yX7_statementAt wz_X7_statementAt) (fun w h => (List.mem_cons_of_mem _ (List.mem_append_right _ (List.mem_append_right _ (List.mem_append_right _ (List.mem_append_left _ h)))))) (by decide +kernel)) rfl rfl rfl (by decide +kernel) ⟨Nat.le_of_ble_eq_true rfl, Nat.le_of_ble_eq_true rfl⟩) ⟨fun a U g mk q => by obtain ⟨q0, qP, qK⟩ := q; exact ⟨q0, qP, va_K.moved (u := U) (U := U.calling g mk a) (Vm.Alike.refl U.vm) qK⟩, va_recv hKc hPc (ci := 10) (q0 := 0) rfl rfl, fun U hU hW => ⟨rfl, by rw [hU]; exact hPc, va_K.moved hW.alike hKc⟩⟩ rfl rfl hl.1 rfl (lv_room (Nat.le_of_ble_eq_true rfl)) dX11_repeat_14 ⟨(Nat.le_of_ble_eq_true rfl), (Nat.le_of_ble_eq_true rfl)⟩)) (fun r_2 hr_2 => ?_)
  subst hr_2
  refine W.eq (g2 := F0 m 17 ls [.null]) rfl ?_
  refine lv_astoreN (lv' := [(4, .null), (3, .null), (0, .ref x), (1, .int i), (2, .int j)]) hx hb dX11_repeat_17 hl (by decide) rfl (fun ls hl => ?_)
  refine lv_aload_nN hx hb dX11_repeat_19 rfl (lv_at hl 1 rfl) ?_
  refine lv_ifnullN (tgt := 28) hx hb dX11_repeat_20 (by decide) ?_
  exact xw_throwW (E := "java/lang/IndexOutOfBoundsException") (text := "no such node or statement") (ik := 86) (is := 264) (ic := 90) hx hb hlt hown (by decide +kernel) (by decide +kernel) (hts (.classLink RX11 86 "java/lang/IndexOutOfBoundsException") (by decide +kernel)) (hts (.initialized "java/lang/IndexOutOfBoundsException") (by decide +kernel)) (by decide +kernel) (fun w h => hts w (List.mem_cons_of_mem _ (List.mem_append_right _ (List.mem_append_right _ (List.mem_append_right _ (List.mem_append_right _ (List.mem_append_left _ h))))))) xw_bIOB xw_gIOB hX hS (by rw [hml]; exact hl.1) dX11_repeat_28 dX11_repeat_31 dX11_repeat_32 dX11_repeat_35 dX11_repeat_38 hno (Nat.le_of_ble_eq_true rfl) (Nat.le_of_ble_eq_true rfl) (Nat.le_of_ble_eq_true rfl) (Nat.le_of_ble_eq_true rfl) hlocks (fun t h1 h2 => ⟨(), trivial, rfl, h2⟩) hS.2.2 (Nat.le_of_ble_eq_true rfl) (Nat.le_of_ble_eq_true rfl)

def wz_X11_then : List Cond := .code yX11_then cX11_then 5 (some .int) :: ([.fieldLink RX11 10 "Sequencepoint" "program" "LSequencepoint$Program;", .classLink RX11 86 "java/lang/IndexOutOfBoundsException", .initialized "java/lang/IndexOutOfBoundsException"] ++ (wsX110 ++ ((wsV RX11 126 RX7 yX7_statementAt wz_X7_statementAt) ++ (((vx_atS RX11 90 "java/lang/IndexOutOfBoundsException" xw_N).filter goodWord) ++ []))))
set_option maxHeartbeats 4000000 in
set_option maxRecDepth 100000 in
theorem z_X11_then (l : Launch) (hlt : l.stackTraces = false) (dC : Nat → ClassId) (dI : Nat → Nat → Nat) (x : Nat) (pr : Nat) (op : Nat) (ma : Nat) (la : Nat) (tr : Nat) (oc : Nat) (av : Nat) (af : Nat) (ab : Nat) (an : Nat) (at_ : Nat) (i : Int32) (j : Int32) (sz : Nat) : vx_Met l yX11_then wz_X11_then ({ frames := 6, cells := 1, slots := 6, locals := 100 }) (va_Pc [.ref x, .int i, .int j] (fun U => U.heap.size = sz ∧ va_P (dC, dI) vwCl [(x, .inr (13, [.ref pr, .ref op, .ref ma, .ref la, .ref tr, .ref oc, .long 0])), (pr, .inr (10, [.ref av, .ref af, .ref ab, .ref an, .ref at_, .int 0, .int 0, .int 0, .int 0]))] U.heap ∧ va_K (dC, dI) vwCl [] U ∧ va_D (fun _ => True) [(x, .inr (13, [.ref pr, .ref op, .ref ma, .ref la, .ref tr, .ref oc, .long 0])), (pr, .inr (10, [.ref av, .ref af, .ref ab, .ref an, .ref at_, .int 0, .int 0, .int 0, .int 0]))] ∧ xw (va_A [(x, .inr (13, [.ref pr, .ref op, .ref ma, .ref la, .ref tr, .ref oc, .long 0])), (pr, .inr (10, [.ref av, .ref af, .ref ab, .ref an, .ref at_, .int 0, .int 0, .int 0, .int 0]))] sz) U U.heap)) (va_Qi (fun (r : Int32) (_ : Unit) => "java/lang/IndexOutOfBoundsException" = "" ∧ True) (fun _ t => True) (va_A [(x, .inr (13, [.ref pr, .ref op, .ref ma, .ref la, .ref tr, .ref oc, .long 0])), (pr, .inr (10, [.ref av, .ref af, .ref ab, .ref an, .ref at_, .int 0, .int 0, .int 0, .int 0]))] sz)) (vx_X (fun _ : Unit => True) (fun E _ _ => E = "java/lang/IndexOutOfBoundsException") (va_A [(x, .inr (13, [.ref pr, .ref op, .ref ma, .ref la, .ref tr, .ref oc, .long 0])), (pr, .inr (10, [.ref av, .ref af, .ref ab, .ref an, .ref at_, .int 0, .int 0, .int 0, .int 0]))] sz)) 1 6 (va_A [(x, .inr (13, [.ref pr, .ref op, .ref ma, .ref la, .ref tr, .ref oc, .long 0])), (pr, .inr (10, [.ref av, .ref af, .ref ab, .ref an, .ref at_, .int 0, .int 0, .int 0, .int 0]))] sz) := by
  refine vx_ofW (cc := cX11_then) (maxL := 5) (ret := (some .int)) (by decide +kernel) rfl ?_
  intro p e s m args below meth c s₁ B hml hno hv
  obtain ⟨rfl, hsz, hP, hK, hD0, hX⟩ := hv
  have hx := B.exec
  have hb := B.bytes
  have hr := B.returns
  have hts := atoms_spec (ws := wz_X11_then) B.pre
  have hown : s.vm.findClass RX11 = some m.cls := findClass_of_methodNamed B.named
  have hlocks := B.notSynchronized
  subst hsz
  have hD := hD0.self (sz := s.heap.size)
  generalize hAe : va_A [(x, .inr (13, [.ref pr, .ref op, .ref ma, .ref la, .ref tr, .ref oc, .long 0])), (pr, .inr (10, [.ref av, .ref af, .ref ab, .ref an, .ref at_, .int 0, .int 0, .int 0, .int 0]))] s.heap.size = A at hD hX ⊢
  have hA : ∀ q : Nat, s.heap.size ≤ q → A q := fun q h => by rw [← hAe]; exact Or.inr h
  have hS : va_S A s.heap s.heap [] := va_S.rf
  have hP : va_P (dC, dI) vwCl [(x, .inr (13, [.ref pr, .ref op, .ref ma, .ref la, .ref tr, .ref oc, .long 0])), (pr, .inr (10, [.ref av, .ref af, .ref ab, .ref an, .ref at_, .int 0, .int 0, .int 0, .int 0]))] s.heap := hP
  have hl := lv_entry ([.ref x, .int i, .int j]) (n := 5) (Nat.le_of_ble_eq_true rfl)
  rw [lg_entry_eq]
  generalize (lg_sl ([.ref x, .int i, .int j]) ++ List.replicate (5 - (lg_sl ([.ref x, .int i, .int j])).length) Slot.unset).toArray = ls at hl ⊢
  have hl : lv_has ls 5 [(0, .ref x), (1, .int i), (2, .int j)] := hl
  refine lv_aload_n hx hb dX11_then_0 rfl (lv_at hl 0 rfl) ?_
  refine va_get (D := (dC, dI)) (ci := 13) (v := .ref pr) (C := RX11) (T := TX11) (N := 7) hx hb hts (fun w h => (List.mem_cons_of_mem _ (List.mem_append_right _ (List.mem_append_left _ h)))) hown hK hP 0 rfl rfl 0 (by decide) (hts (.fieldLink RX11 10 "Sequencepoint" "program" "LSequencepoint$Program;") (by decide +kernel)) (fun _ h9 => h9) rfl dX11_then_1 ?_
  refine lv_iload_n hx hb dX11_then_4 rfl (lv_at hl 1 rfl) ?_
  have hPc := hP.sub (ws' := [(pr, .inr (10, [.ref av, .ref af, .ref ab, .ref an, .ref at_, .int 0, .int 0, .int 0, .int 0]))]) [1] rfl
  have hKc := hK.sub (tys' := []) [] rfl
  refine va_csq (va_Run.run (va_runV (As := [.int i]) (rest := []) ⟨hx, hb, hml, hown, hts⟩ (z_X7_statementAt l dC dI pr av af ab an at_ i) (cwV 1 hts (goodIn_sub (ws := wsV RX11 126 RX7 yX7_statementAt wz_X7_statementAt) (fun w h => (List.mem_cons_of_mem _ (List.mem_append_right _ (List.mem_append_right _ (List.mem_append_left _ h))))) (by decide +kernel)) rfl rfl rfl (by decide +kernel) ⟨Nat.le_of_ble_eq_true rfl, Nat.le_of_ble_eq_true rfl⟩) ⟨fun a U g mk q => by obtain ⟨q0, qP, qK⟩ := q; exact ⟨q0, qP, va_K.moved (u := U) (U := U.calling g mk a) (Vm.Alike.refl U.vm) qK⟩, va_recv hKc hPc (ci := 10) (q0 := 0) rfl rfl, fun U hU hW => ⟨rfl, by rw [hU]; exact hPc, va_K.moved hW.alike hKc⟩⟩ rfl rfl hl.1 rfl (lv_room (Nat.le_of_ble_eq_true rfl)) dX11_then_5 ⟨(Nat.le_of_ble_eq_true rfl), (Nat.le_of_ble_eq_true rfl)⟩)) (fun r_1 hr_1 => ?_)
  subst hr_1
  refine W.eq (g2 := F0 m 8 ls [.null]) rfl ?_
  refine lv_astore_nN (lv' := [(3, .null), (0, .ref x), (1, .int i), (2, .int j)]) hx hb dX11_then_8 rfl hl (by decide) rfl (fun ls hl => ?_)
  refine lv_aload_n hx hb dX11_then_9 rfl (lv_at hl 1 rfl) ?_
  refine va_get (D := (dC, dI)) (ci := 13) (v := .ref pr) (C := RX11) (T := TX11) (N := 7) hx hb hts (fun w h => (List.mem_cons_of_mem _ (List.mem_append_right _ (List.mem_append_left _ h)))) hown hK hP 0 rfl rfl 0 (by decide) (hts (.fieldLink RX11 10 "Sequencepoint" "program" "LSequencepoint$Program;") (by decide +kernel)) (fun _ h9 => h9) rfl dX11_then_10 ?_
  refine lv_iload_n hx hb dX11_then_13 rfl (lv_at hl 3 rfl) ?_
  have hPc := hP.sub (ws' := [(pr, .inr (10, [.ref av, .ref af, .ref ab, .ref an, .ref at_, .int 0, .int 0, .int 0, .int 0]))]) [1] rfl
  have hKc := hK.sub (tys' := []) [] rfl
  refine va_csq (va_Run.run (va_runV (As := [.int j]) (rest := []) ⟨hx, hb, hml, hown, hts⟩ (z_X7_statementAt l dC dI pr av af ab an at_ j) (cwV 1 hts (goodIn_sub (ws := wsV RX11 126 RX7 yX7_statementAt wz_X7_statementAt) (fun w h => (List.mem_cons_of_mem _ (List.mem_append_right _ (List.mem_append_right _ (List.mem_append_left _ h))))) (by decide +kernel)) rfl rfl rfl (by decide +kernel) ⟨Nat.le_of_ble_eq_true rfl, Nat.le_of_ble_eq_true rfl⟩) ⟨fun a U g mk q => by obtain ⟨q0, qP, qK⟩ := q; exact ⟨q0, qP, va_K.moved (u := U) (U := U.calling g mk a) (Vm.Alike.refl U.vm) qK⟩, va_recv hKc hPc (ci := 10) (q0 := 0) rfl rfl, fun U hU hW => ⟨rfl, by rw [hU]; exact hPc, va_K.moved hW.alike hKc⟩⟩ rfl rfl hl.1 rfl (lv_room (Nat.le_of_ble_eq_true rfl)) dX11_then_14 ⟨(Nat.le_of_ble_eq_true rfl), (Nat.le_of_ble_eq_true rfl)⟩)) (fun r_2 hr_2 => ?_)
  subst hr_2
  refine W.eq (g2 := F0 m 17 ls [.null]) rfl ?_
  refine lv_astoreN (lv' := [(4, .null), (3, .null), (0, .ref x), (1, .int i), (2, .int j)]) hx hb dX11_then_17 hl (by decide) rfl (fun ls hl => ?_)
  refine lv_aload_nN hx hb dX11_then_19 rfl (lv_at hl 1 rfl) ?_
  refine lv_ifnullN (tgt := 28) hx hb dX11_then_20 (by decide) ?_
  exact xw_throwW (E := "java/lang/IndexOutOfBoundsException") (text := "no such statement") (ik := 86) (is := 270) (ic := 90) hx hb hlt hown (by decide +kernel) (by decide +kernel) (hts (.classLink RX11 86 "java/lang/IndexOutOfBoundsException") (by decide +kernel)) (hts (.initialized "java/lang/IndexOutOfBoundsException") (by decide +kernel)) (by decide +kernel) (fun w h => hts w (List.mem_cons_of_mem _ (List.mem_append_right _ (List.mem_append_right _ (List.mem_append_right _ (List.mem_append_left _ h)))))) xw_bIOB xw_gIOB hX hS (by rw [hml]; exact hl.1) dX11_then_28 dX11_then_31 dX11_then_32 dX11_then_35 dX11_then_38 hno (Nat.le_of_ble_eq_true rfl) (Nat.le_of_ble_eq_true rfl) (Nat.le_of_ble_eq_true rfl) (Nat.le_of_ble_eq_true rfl) hlocks (fun t h1 h2 => ⟨(), trivial, rfl, h2⟩) hS.2.2 (Nat.le_of_ble_eq_true rfl) (Nat.le_of_ble_eq_true rfl)

def wz_X11_block : List Cond := .code yX11_block cX11_block 3 (some .int) :: ([.fieldLink RX11 10 "Sequencepoint" "program" "LSequencepoint$Program;", .classLink RX11 86 "java/lang/IndexOutOfBoundsException", .initialized "java/lang/IndexOutOfBoundsException"] ++ (wsX110 ++ ((wsV RX11 126 RX7 yX7_statementAt wz_X7_statementAt) ++ (((vx_atS RX11 90 "java/lang/IndexOutOfBoundsException" xw_N).filter goodWord) ++ []))))
set_option maxHeartbeats 4000000 in
set_option maxRecDepth 100000 in
theorem z_X11_block (l : Launch) (hlt : l.stackTraces = false) (dC : Nat → ClassId) (dI : Nat → Nat → Nat) (x : Nat) (pr : Nat) (op : Nat) (ma : Nat) (la : Nat) (tr : Nat) (oc : Nat) (av : Nat) (af : Nat) (ab : Nat) (an : Nat) (at_ : Nat) (i : Int32) (sz : Nat) : vx_Met l yX11_block wz_X11_block ({ frames := 6, cells := 1, slots := 6, locals := 100 }) (va_Pc [.ref x, .int i] (fun U => U.heap.size = sz ∧ va_P (dC, dI) vwCl [(x, .inr (13, [.ref pr, .ref op, .ref ma, .ref la, .ref tr, .ref oc, .long 0])), (pr, .inr (10, [.ref av, .ref af, .ref ab, .ref an, .ref at_, .int 0, .int 0, .int 0, .int 0]))] U.heap ∧ va_K (dC, dI) vwCl [] U ∧ va_D (fun _ => True) [(x, .inr (13, [.ref pr, .ref op, .ref ma, .ref la, .ref tr, .ref oc, .long 0])), (pr, .inr (10, [.ref av, .ref af, .ref ab, .ref an, .ref at_, .int 0, .int 0, .int 0, .int 0]))] ∧ xw (va_A [(x, .inr (13, [.ref pr, .ref op, .ref ma, .ref la, .ref tr, .ref oc, .long 0])), (pr, .inr (10, [.ref av, .ref af, .ref ab, .ref an, .ref at_, .int 0, .int 0, .int 0, .int 0]))] sz) U U.heap)) (va_Qi (fun (r : Int32) (_ : Unit) => "java/lang/IndexOutOfBoundsException" = "" ∧ True) (fun _ t => True) (va_A [(x, .inr (13, [.ref pr, .ref op, .ref ma, .ref la, .ref tr, .ref oc, .long 0])), (pr, .inr (10, [.ref av, .ref af, .ref ab, .ref an, .ref at_, .int 0, .int 0, .int 0, .int 0]))] sz)) (vx_X (fun _ : Unit => True) (fun E _ _ => E = "java/lang/IndexOutOfBoundsException") (va_A [(x, .inr (13, [.ref pr, .ref op, .ref ma, .ref la, .ref tr, .ref oc, .long 0])), (pr, .inr (10, [.ref av, .ref af, .ref ab, .ref an, .ref at_, .int 0, .int 0, .int 0, .int 0]))] sz)) 1 6 (va_A [(x, .inr (13, [.ref pr, .ref op, .ref ma, .ref la, .ref tr, .ref oc, .long 0])), (pr, .inr (10, [.ref av, .ref af, .ref ab, .ref an, .ref at_, .int 0, .int 0, .int 0, .int 0]))] sz) := by
  refine vx_ofW (cc := cX11_block) (maxL := 3) (ret := (some .int)) (by decide +kernel) rfl ?_
  intro p e s m args below meth c s₁ B hml hno hv
  obtain ⟨rfl, hsz, hP, hK, hD0, hX⟩ := hv
  have hx := B.exec
  have hb := B.bytes
  have hr := B.returns
  have hts := atoms_spec (ws := wz_X11_block) B.pre
  have hown : s.vm.findClass RX11 = some m.cls := findClass_of_methodNamed B.named
  have hlocks := B.notSynchronized
  subst hsz
  have hD := hD0.self (sz := s.heap.size)
  generalize hAe : va_A [(x, .inr (13, [.ref pr, .ref op, .ref ma, .ref la, .ref tr, .ref oc, .long 0])), (pr, .inr (10, [.ref av, .ref af, .ref ab, .ref an, .ref at_, .int 0, .int 0, .int 0, .int 0]))] s.heap.size = A at hD hX ⊢
  have hA : ∀ q : Nat, s.heap.size ≤ q → A q := fun q h => by rw [← hAe]; exact Or.inr h
  have hS : va_S A s.heap s.heap [] := va_S.rf
  have hP : va_P (dC, dI) vwCl [(x, .inr (13, [.ref pr, .ref op, .ref ma, .ref la, .ref tr, .ref oc, .long 0])), (pr, .inr (10, [.ref av, .ref af, .ref ab, .ref an, .ref at_, .int 0, .int 0, .int 0, .int 0]))] s.heap := hP
  have hl := lv_entry ([.ref x, .int i]) (n := 3) (Nat.le_of_ble_eq_true rfl)
  rw [lg_entry_eq]
  generalize (lg_sl ([.ref x, .int i]) ++ List.replicate (3 - (lg_sl ([.ref x, .int i])).length) Slot.unset).toArray = ls at hl ⊢
  have hl : lv_has ls 3 [(0, .ref x), (1, .int i)] := hl
  refine lv_aload_n hx hb dX11_block_0 rfl (lv_at hl 0 rfl) ?_
  refine va_get (D := (dC, dI)) (ci := 13) (v := .ref pr) (C := RX11) (T := TX11) (N := 7) hx hb hts (fun w h => (List.mem_cons_of_mem _ (List.mem_append_right _ (List.mem_append_left _ h)))) hown hK hP 0 rfl rfl 0 (by decide) (hts (.fieldLink RX11 10 "Sequencepoint" "program" "LSequencepoint$Program;") (by decide +kernel)) (fun _ h9 => h9) rfl dX11_block_1 ?_
  refine lv_iload_n hx hb dX11_block_4 rfl (lv_at hl 1 rfl) ?_
  have hPc := hP.sub (ws' := [(pr, .inr (10, [.ref av, .ref af, .ref ab, .ref an, .ref at_, .int 0, .int 0, .int 0, .int 0]))]) [1] rfl
  have hKc := hK.sub (tys' := []) [] rfl
  refine va_csq (va_Run.run (va_runV (As := [.int i]) (rest := []) ⟨hx, hb, hml, hown, hts⟩ (z_X7_statementAt l dC dI pr av af ab an at_ i) (cwV 1 hts (goodIn_sub (ws := wsV RX11 126 RX7 yX7_statementAt wz_X7_statementAt) (fun w h => (List.mem_cons_of_mem _ (List.mem_append_right _ (List.mem_append_right _ (List.mem_append_left _ h))))) (by decide +kernel)) rfl rfl rfl (by decide +kernel) ⟨Nat.le_of_ble_eq_true rfl, Nat.le_of_ble_eq_true rfl⟩) ⟨fun a U g mk q => by obtain ⟨q0, qP, qK⟩ := q; exact ⟨q0, qP, va_K.moved (u := U) (U := U.calling g mk a) (Vm.Alike.refl U.vm) qK⟩, va_recv hKc hPc (ci := 10) (q0 := 0) rfl rfl, fun U hU hW => ⟨rfl, by rw [hU]; exact hPc, va_K.moved hW.alike hKc⟩⟩ rfl rfl hl.1 rfl (lv_room (Nat.le_of_ble_eq_true rfl)) dX11_block_5 ⟨(Nat.le_of_ble_eq_true rfl), (Nat.le_of_ble_eq_true rfl)⟩)) (fun r_1 hr_1 => ?_)
  subst hr_1
  refine W.eq (g2 := F0 m 8 ls [.null]) rfl ?_
  refine lv_astore_nN (lv' := [(2, .null), (0, .ref x), (1, .int i)]) hx hb dX11_block_8 rfl hl (by decide) rfl (fun ls hl => ?_)
  refine lv_aload_nN hx hb dX11_block_9 rfl (lv_at hl 0 rfl) ?_
  refine lv_ifnonnullN hx hb dX11_block_10 ?_
  exact xw_throwW (E := "java/lang/IndexOutOfBoundsException") (text := "no such statement") (ik := 86) (is := 270) (ic := 90) hx hb hlt hown (by decide +kernel) (by decide +kernel) (hts (.classLink RX11 86 "java/lang/IndexOutOfBoundsException") (by decide +kernel)) (hts (.initialized "java/lang/IndexOutOfBoundsException") (by decide +kernel)) (by decide +kernel) (fun w h => hts w (List.mem_cons_of_mem _ (List.mem_append_right _ (List.mem_append_right _ (List.mem_append_right _ (List.mem_append_left _ h)))))) xw_bIOB xw_gIOB hX hS (by rw [hml]; exact hl.1) dX11_block_13 dX11_block_16 dX11_block_17 dX11_block_20 dX11_block_23 hno (Nat.le_of_ble_eq_true rfl) (Nat.le_of_ble_eq_true rfl) (Nat.le_of_ble_eq_true rfl) (Nat.le_of_ble_eq_true rfl) hlocks (fun t h1 h2 => ⟨(), trivial, rfl, h2⟩) hS.2.2 (Nat.le_of_ble_eq_true rfl) (Nat.le_of_ble_eq_true rfl)

def wz_X11_refuseProgramWithoutStart : List Cond := .code yX11_refuseProgramWithoutStart cX11_refuseProgramWithoutStart 1 none :: ([.fieldLink RX11 10 "Sequencepoint" "program" "LSequencepoint$Program;", .classLink RX11 66 "java/lang/IllegalStateException", .initialized "java/lang/IllegalStateException"] ++ (wsX110 ++ ((wsV RX11 311 RX7 yX7_canStart wz_X7_canStart) ++ (((vx_atS RX11 70 "java/lang/IllegalStateException" xw_N).filter goodWord) ++ []))))
set_option maxHeartbeats 4000000 in
set_option maxRecDepth 100000 in
theorem z_X11_refuseProgramWithoutStart (l : Launch) (hlt : l.stackTraces = false) (dC : Nat → ClassId) (dI : Nat → Nat → Nat) (x : Nat) (pr : Nat) (op : Nat) (ma : Nat) (la : Nat) (tr : Nat) (oc : Nat) (av : Nat) (af : Nat) (ab : Nat) (an : Nat) (at_ : Nat) (sz : Nat) : vx_Met l yX11_refuseProgramWithoutStart wz_X11_refuseProgramWithoutStart ({ frames := 6, cells := 1, slots := 6, locals := 100 }) (va_Pc [.ref x] (fun U => U.heap.size = sz ∧ va_P (dC, dI) vwCl [(x, .inr (13, [.ref pr, .ref op, .ref ma, .ref la, .ref tr, .ref oc, .long 0])), (pr, .inr (10, [.ref av, .ref af, .ref ab, .ref an, .ref at_, .int 0, .int 0, .int 0, .int 0]))] U.heap ∧ va_K (dC, dI) vwCl [] U ∧ va_D (fun _ => True) [(x, .inr (13, [.ref pr, .ref op, .ref ma, .ref la, .ref tr, .ref oc, .long 0])), (pr, .inr (10, [.ref av, .ref af, .ref ab, .ref an, .ref at_, .int 0, .int 0, .int 0, .int 0]))] ∧ xw (va_A [(x, .inr (13, [.ref pr, .ref op, .ref ma, .ref la, .ref tr, .ref oc, .long 0])), (pr, .inr (10, [.ref av, .ref af, .ref ab, .ref an, .ref at_, .int 0, .int 0, .int 0, .int 0]))] sz) U U.heap)) (va_Qv (fun _ : Unit => "java/lang/IllegalStateException" = "" ∧ True) (fun _ t => True) (va_A [(x, .inr (13, [.ref pr, .ref op, .ref ma, .ref la, .ref tr, .ref oc, .long 0])), (pr, .inr (10, [.ref av, .ref af, .ref ab, .ref an, .ref at_, .int 0, .int 0, .int 0, .int 0]))] sz)) (vx_X (fun _ : Unit => True) (fun E _ _ => E = "java/lang/IllegalStateException") (va_A [(x, .inr (13, [.ref pr, .ref op, .ref ma, .ref la, .ref tr, .ref oc, .long 0])), (pr, .inr (10, [.ref av, .ref af, .ref ab, .ref an, .ref at_, .int 0, .int 0, .int 0, .int 0]))] sz)) 1 6 (va_A [(x, .inr (13, [.ref pr, .ref op, .ref ma, .ref la, .ref tr, .ref oc, .long 0])), (pr, .inr (10, [.ref av, .ref af, .ref ab, .ref an, .ref at_, .int 0, .int 0, .int 0, .int 0]))] sz) := by
  refine vx_ofW (cc := cX11_refuseProgramWithoutStart) (maxL := 1) (ret := none) (by decide +kernel) rfl ?_
  intro p e s m args below meth c s₁ B hml hno hv
  obtain ⟨rfl, hsz, hP, hK, hD0, hX⟩ := hv
  have hx := B.exec
  have hb := B.bytes
  have hr := B.returns
  have hts := atoms_spec (ws := wz_X11_refuseProgramWithoutStart) B.pre
  have hown : s.vm.findClass RX11 = some m.cls := findClass_of_methodNamed B.named
  have hlocks := B.notSynchronized
  subst hsz
  have hD := hD0.self (sz := s.heap.size)
  generalize hAe : va_A [(x, .inr (13, [.ref pr, .ref op, .ref ma, .ref la, .ref tr, .ref oc, .long 0])), (pr, .inr (10, [.ref av, .ref af, .ref ab, .ref an, .ref at_, .int 0, .int 0, .int 0, .int 0]))] s.heap.size = A at hD hX ⊢
  have hA : ∀ q : Nat, s.heap.size ≤ q → A q := fun q h => by rw [← hAe]; exact Or.inr h
  have hS : va_S A s.heap s.heap [] := va_S.rf
  have hP : va_P (dC, dI) vwCl [(x, .inr (13, [.ref pr, .ref op, .ref ma, .ref la, .ref tr, .ref oc, .long 0])), (pr, .inr (10, [.ref av, .ref af, .ref ab, .ref an, .ref at_, .int 0, .int 0, .int 0, .int 0]))] s.heap := hP
  have hl := lv_entry ([.ref x]) (n := 1) (Nat.le_of_ble_eq_true rfl)
  rw [lg_entry_eq]
  generalize (lg_sl ([.ref x]) ++ List.replicate (1 - (lg_sl ([.ref x])).length) Slot.unset).toArray = ls at hl ⊢
  have hl : lv_has ls 1 [(0, .ref x)] := hl
  refine lv_aload_n hx hb dX11_refuseProgramWithoutStart_0 rfl (lv_at hl 0 rfl) ?_
  refine va_get (D := (dC, dI)) (ci := 13) (v := .ref pr) (C := RX11) (T := TX11) (N := 7) hx hb hts (fun w h => (List.mem_cons_of_mem _ (List.mem_append_right _ (List.mem_append_left _ h)))) hown hK hP 0 rfl rfl 0 (by decide) (hts (.fieldLink RX11 10 "Sequencepoint" "program" "LSequencepoint$Program;") (by decide +kernel)) (fun _ h9 => h9) rfl dX11_refuseProgramWithoutStart_1 ?_
  have hPc := hP.sub (ws' := [(pr, .inr (10, [.ref av, .ref af, .ref ab, .ref an, .ref at_, .int 0, .int 0, .int 0, .int 0]))]) [1] rfl
  have hKc := hK.sub (tys' := []) [] rfl
  refine vp_callSi (va_Run.run (va_runV (As := []) (rest := []) ⟨hx, hb, hml, hown, hts⟩ (z_X7_canStart l dC dI pr av af ab an at_) (cwV 0 hts (goodIn_sub (ws := wsV RX11 311 RX7 yX7_canStart wz_X7_canStart) (fun w h => (List.mem_cons_of_mem _ (List.mem_append_right _ (List.mem_append_right _ (List.mem_append_left _ h))))) (by decide +kernel)) rfl rfl rfl (by decide +kernel) ⟨Nat.le_of_ble_eq_true rfl, Nat.le_of_ble_eq_true rfl⟩) ⟨fun a U g mk q => by obtain ⟨q0, qP, qK⟩ := q; exact ⟨q0, qP, va_K.moved (u := U) (U := U.calling g mk a) (Vm.Alike.refl U.vm) qK⟩, va_recv hKc hPc (ci := 10) (q0 := 0) rfl rfl, fun U hU hW => ⟨rfl, by rw [hU]; exact hPc, va_K.moved hW.alike hKc⟩⟩ rfl rfl hl.1 rfl (lv_room (Nat.le_of_ble_eq_true rfl)) dX11_refuseProgramWithoutStart_4 ⟨(Nat.le_of_ble_eq_true rfl), (Nat.le_of_ble_eq_true rfl)⟩)) (fun r_1 hr_1 => ?_)
  subst hr_1
  refine lv_if_ne (tgt := 21) hx hb dX11_refuseProgramWithoutStart_7 (by decide) (fun c_2 => absurd (by decide) c_2) (fun c_2 => ?_)
  exact xw_throwW (E := "java/lang/IllegalStateException") (text := "the function 0 has no body, or parameters") (ik := 66) (is := 314) (ic := 70) hx hb hlt hown (by decide +kernel) (by decide +kernel) (hts (.classLink RX11 66 "java/lang/IllegalStateException") (by decide +kernel)) (hts (.initialized "java/lang/IllegalStateException") (by decide +kernel)) (by decide +kernel) (fun w h => hts w (List.mem_cons_of_mem _ (List.mem_append_right _ (List.mem_append_right _ (List.mem_append_right _ (List.mem_append_left _ h)))))) xw_bISE xw_gISE hX hS (by rw [hml]; exact hl.1) dX11_refuseProgramWithoutStart_10 dX11_refuseProgramWithoutStart_13 dX11_refuseProgramWithoutStart_14 dX11_refuseProgramWithoutStart_17 dX11_refuseProgramWithoutStart_20 hno (Nat.le_of_ble_eq_true rfl) (Nat.le_of_ble_eq_true rfl) (Nat.le_of_ble_eq_true rfl) (Nat.le_of_ble_eq_true rfl) hlocks (fun t h1 h2 => ⟨(), trivial, rfl, h2⟩) hS.2.2 (Nat.le_of_ble_eq_true rfl) (Nat.le_of_ble_eq_true rfl)

def wz_X11_behaviours : List Cond := .code yX11_behaviours cX11_behaviours 3 (some .int) :: ([] ++ ((wsV RX11 281 RX11 yX11_refuseProgramWithoutStart wz_X11_refuseProgramWithoutStart) ++ []))
set_option maxHeartbeats 4000000 in
set_option maxRecDepth 100000 in
theorem z_X11_behaviours (l : Launch) (hlt : l.stackTraces = false) (dC : Nat → ClassId) (dI : Nat → Nat → Nat) (x : Nat) (pr : Nat) (op : Nat) (ma : Nat) (la : Nat) (tr : Nat) (oc : Nat) (av : Nat) (af : Nat) (ab : Nat) (an : Nat) (at_ : Nat) (sz : Nat) : vx_Met l yX11_behaviours wz_X11_behaviours ({ frames := 7, cells := 1, slots := 6, locals := 120 }) (va_Pc [.ref x] (fun U => U.heap.size = sz ∧ va_P (dC, dI) vwCl [(x, .inr (13, [.ref pr, .ref op, .ref ma, .ref la, .ref tr, .ref oc, .long 0])), (pr, .inr (10, [.ref av, .ref af, .ref ab, .ref an, .ref at_, .int 0, .int 0, .int 0, .int 0]))] U.heap ∧ va_K (dC, dI) vwCl [] U ∧ va_D (fun _ => True) [(x, .inr (13, [.ref pr, .ref op, .ref ma, .ref la, .ref tr, .ref oc, .long 0])), (pr, .inr (10, [.ref av, .ref af, .ref ab, .ref an, .ref at_, .int 0, .int 0, .int 0, .int 0]))] ∧ xw (va_A [(x, .inr (13, [.ref pr, .ref op, .ref ma, .ref la, .ref tr, .ref oc, .long 0])), (pr, .inr (10, [.ref av, .ref af, .ref ab, .ref an, .ref at_, .int 0, .int 0, .int 0, .int 0]))] sz) U U.heap)) (va_Qi (fun (r : Int32) (_ : Unit) => "java/lang/IllegalStateException" = "" ∧ True) (fun _ t => True) (va_A [(x, .inr (13, [.ref pr, .ref op, .ref ma, .ref la, .ref tr, .ref oc, .long 0])), (pr, .inr (10, [.ref av, .ref af, .ref ab, .ref an, .ref at_, .int 0, .int 0, .int 0, .int 0]))] sz)) (vx_X (fun _ : Unit => True) (fun E _ _ => E = "java/lang/IllegalStateException") (va_A [(x, .inr (13, [.ref pr, .ref op, .ref ma, .ref la, .ref tr, .ref oc, .long 0])), (pr, .inr (10, [.ref av, .ref af, .ref ab, .ref an, .ref at_, .int 0, .int 0, .int 0, .int 0]))] sz)) 1 6 (va_A [(x, .inr (13, [.ref pr, .ref op, .ref ma, .ref la, .ref tr, .ref oc, .long 0])), (pr, .inr (10, [.ref av, .ref af, .ref ab, .ref an, .ref at_, .int 0, .int 0, .int 0, .int 0]))] sz) := by
  refine vx_ofW (cc := cX11_behaviours) (maxL := 3) (ret := (some .int)) (by decide +kernel) rfl ?_
  intro p e s m args below meth c s₁ B hml hno hv
  obtain ⟨rfl, hsz, hP, hK, hD0, hX⟩ := hv
  have hx := B.exec
  have hb := B.bytes
  have hr := B.returns
  have hts := atoms_spec (ws := wz_X11_behaviours) B.pre
  have hown : s.vm.findClass RX11 = some m.cls := findClass_of_methodNamed B.named
  have hlocks := B.notSynchronized
  subst hsz
  have hD := hD0.self (sz := s.heap.size)
  generalize hAe : va_A [(x, .inr (13, [.ref pr, .ref op, .ref ma, .ref la, .ref tr, .ref oc, .long 0])), (pr, .inr (10, [.ref av, .ref af, .ref ab, .ref an, .ref at_, .int 0, .int 0, .int 0, .int 0]))] s.heap.size = A at hD hX ⊢
  have hA : ∀ q : Nat, s.heap.size ≤ q → A q := fun q h => by rw [← hAe]; exact Or.inr h
  have hS : va_S A s.heap s.heap [] := va_S.rf
  have hP : va_P (dC, dI) vwCl [(x, .inr (13, [.ref pr, .ref op, .ref ma, .ref la, .ref tr, .ref oc, .long 0])), (pr, .inr (10, [.ref av, .ref af, .ref ab, .ref an, .ref at_, .int 0, .int 0, .int 0, .int 0]))] s.heap := hP
  have hl := lv_entry ([.ref x]) (n := 3) (Nat.le_of_ble_eq_true rfl)
  rw [lg_entry_eq]
  generalize (lg_sl ([.ref x]) ++ List.replicate (3 - (lg_sl ([.ref x])).length) Slot.unset).toArray = ls at hl ⊢
  have hl : lv_has ls 3 [(0, .ref x)] := hl
  refine lv_aload_n hx hb dX11_behaviours_0 rfl (lv_at hl 0 rfl) ?_
  have hPc := hP.sub (ws' := [(x, .inr (13, [.ref pr, .ref op, .ref ma, .ref la, .ref tr, .ref oc, .long 0])), (pr, .inr (10, [.ref av, .ref af, .ref ab, .ref an, .ref at_, .int 0, .int 0, .int 0, .int 0]))]) [0, 1] rfl
  have hKc := hK.sub (tys' := []) [] rfl
  have hDc := hD.sub (ws' := [(x, .inr (13, [.ref pr, .ref op, .ref ma, .ref la, .ref tr, .ref oc, .long 0])), (pr, .inr (10, [.ref av, .ref af, .ref ab, .ref an, .ref at_, .int 0, .int 0, .int 0, .int 0]))]) [0, 1] (by decide) rfl
  have hFc := va_free (wc := [(x, .inr (13, [.ref pr, .ref op, .ref ma, .ref la, .ref tr, .ref oc, .long 0])), (pr, .inr (10, [.ref av, .ref af, .ref ab, .ref an, .ref at_, .int 0, .int 0, .int 0, .int 0]))]) hD hS hA [0, 1] rfl
  refine vx_callv (vx_runV (As := []) (rest := []) ⟨hx, hb, hml, hown, hts⟩ (z_X11_refuseProgramWithoutStart l hlt dC dI x pr op ma la tr oc av af ab an at_ _) (cwV 0 hts (goodIn_sub (ws := wsV RX11 281 RX11 yX11_refuseProgramWithoutStart wz_X11_refuseProgramWithoutStart) (fun w h => (List.mem_cons_of_mem _ (List.mem_append_right _ (List.mem_append_left _ h)))) (by decide +kernel)) rfl rfl rfl (by decide +kernel) ⟨Nat.le_of_ble_eq_true rfl, Nat.le_of_ble_eq_true rfl⟩) ⟨fun a U g mk q => by obtain ⟨q0, q1, qP, qK, qD, qX⟩ := q; exact ⟨q0, q1, qP, va_K.moved (u := U) (U := U.calling g mk a) (Vm.Alike.refl U.vm) qK, qD, xw.blind a g mk qX⟩, va_recv hKc hPc (ci := 13) (q0 := 0) rfl rfl, fun U hU hW => ⟨rfl, by rw [hU], by rw [hU]; exact hPc, va_K.moved hW.alike hKc, hDc.weaken (fun _ _ _ _ => trivial), xw.call hX hS hFc hW hU⟩⟩ rfl rfl hl.1 rfl (lv_room (Nat.le_of_ble_eq_true rfl)) dX11_behaviours_1 ⟨(Nat.le_of_ble_eq_true rfl), (Nat.le_of_ble_eq_true rfl)⟩) hS (fun q _ h => hFc q h) hFc (fun q _ h => hFc q h) (fun E ce q9 u t H1 locs ht hvm hw hB hz1 hk1 hS hq9 hcv hcl => ?_) (fun u t H1 locs ht hvm hw hB hz1 hk1 hS => ?_)
  · have hK1 : va_K (dC, dI) vwCl _ s := hK
    exact vx_out (fun x h => (hno x h).elim) hlocks hq9 hcv hcl (fun t ht hA => ⟨(), trivial, hB, hS.F ht⟩) hS.2.2 (Nat.le_of_ble_eq_true rfl) (Nat.le_of_ble_eq_true rfl)
  · exact absurd hw.1 (by decide)

def wz_X11_undefinedOrders : List Cond := .code yX11_undefinedOrders cX11_undefinedOrders 1 (some .int) :: ([] ++ ((wsV RX11 281 RX11 yX11_refuseProgramWithoutStart wz_X11_refuseProgramWithoutStart) ++ []))
set_option maxHeartbeats 4000000 in
set_option maxRecDepth 100000 in
theorem z_X11_undefinedOrders (l : Launch) (hlt : l.stackTraces = false) (dC : Nat → ClassId) (dI : Nat → Nat → Nat) (x : Nat) (pr : Nat) (op : Nat) (ma : Nat) (la : Nat) (tr : Nat) (oc : Nat) (av : Nat) (af : Nat) (ab : Nat) (an : Nat) (at_ : Nat) (sz : Nat) : vx_Met l yX11_undefinedOrders wz_X11_undefinedOrders ({ frames := 7, cells := 1, slots := 6, locals := 120 }) (va_Pc [.ref x] (fun U => U.heap.size = sz ∧ va_P (dC, dI) vwCl [(x, .inr (13, [.ref pr, .ref op, .ref ma, .ref la, .ref tr, .ref oc, .long 0])), (pr, .inr (10, [.ref av, .ref af, .ref ab, .ref an, .ref at_, .int 0, .int 0, .int 0, .int 0]))] U.heap ∧ va_K (dC, dI) vwCl [] U ∧ va_D (fun _ => True) [(x, .inr (13, [.ref pr, .ref op, .ref ma, .ref la, .ref tr, .ref oc, .long 0])), (pr, .inr (10, [.ref av, .ref af, .ref ab, .ref an, .ref at_, .int 0, .int 0, .int 0, .int 0]))] ∧ xw (va_A [(x, .inr (13, [.ref pr, .ref op, .ref ma, .ref la, .ref tr, .ref oc, .long 0])), (pr, .inr (10, [.ref av, .ref af, .ref ab, .ref an, .ref at_, .int 0, .int 0, .int 0, .int 0]))] sz) U U.heap)) (va_Qi (fun (r : Int32) (_ : Unit) => "java/lang/IllegalStateException" = "" ∧ True) (fun _ t => True) (va_A [(x, .inr (13, [.ref pr, .ref op, .ref ma, .ref la, .ref tr, .ref oc, .long 0])), (pr, .inr (10, [.ref av, .ref af, .ref ab, .ref an, .ref at_, .int 0, .int 0, .int 0, .int 0]))] sz)) (vx_X (fun _ : Unit => True) (fun E _ _ => E = "java/lang/IllegalStateException") (va_A [(x, .inr (13, [.ref pr, .ref op, .ref ma, .ref la, .ref tr, .ref oc, .long 0])), (pr, .inr (10, [.ref av, .ref af, .ref ab, .ref an, .ref at_, .int 0, .int 0, .int 0, .int 0]))] sz)) 1 6 (va_A [(x, .inr (13, [.ref pr, .ref op, .ref ma, .ref la, .ref tr, .ref oc, .long 0])), (pr, .inr (10, [.ref av, .ref af, .ref ab, .ref an, .ref at_, .int 0, .int 0, .int 0, .int 0]))] sz) := by
  refine vx_ofW (cc := cX11_undefinedOrders) (maxL := 1) (ret := (some .int)) (by decide +kernel) rfl ?_
  intro p e s m args below meth c s₁ B hml hno hv
  obtain ⟨rfl, hsz, hP, hK, hD0, hX⟩ := hv
  have hx := B.exec
  have hb := B.bytes
  have hr := B.returns
  have hts := atoms_spec (ws := wz_X11_undefinedOrders) B.pre
  have hown : s.vm.findClass RX11 = some m.cls := findClass_of_methodNamed B.named
  have hlocks := B.notSynchronized
  subst hsz
  have hD := hD0.self (sz := s.heap.size)
  generalize hAe : va_A [(x, .inr (13, [.ref pr, .ref op, .ref ma, .ref la, .ref tr, .ref oc, .long 0])), (pr, .inr (10, [.ref av, .ref af, .ref ab, .ref an, .ref at_, .int 0, .int 0, .int 0, .int 0]))] s.heap.size = A at hD hX ⊢
  have hA : ∀ q : Nat, s.heap.size ≤ q → A q := fun q h => by rw [← hAe]; exact Or.inr h
  have hS : va_S A s.heap s.heap [] := va_S.rf
  have hP : va_P (dC, dI) vwCl [(x, .inr (13, [.ref pr, .ref op, .ref ma, .ref la, .ref tr, .ref oc, .long 0])), (pr, .inr (10, [.ref av, .ref af, .ref ab, .ref an, .ref at_, .int 0, .int 0, .int 0, .int 0]))] s.heap := hP
  have hl := lv_entry ([.ref x]) (n := 1) (Nat.le_of_ble_eq_true rfl)
  rw [lg_entry_eq]
  generalize (lg_sl ([.ref x]) ++ List.replicate (1 - (lg_sl ([.ref x])).length) Slot.unset).toArray = ls at hl ⊢
  have hl : lv_has ls 1 [(0, .ref x)] := hl
  refine lv_aload_n hx hb dX11_undefinedOrders_0 rfl (lv_at hl 0 rfl) ?_
  have hPc := hP.sub (ws' := [(x, .inr (13, [.ref pr, .ref op, .ref ma, .ref la, .ref tr, .ref oc, .long 0])), (pr, .inr (10, [.ref av, .ref af, .ref ab, .ref an, .ref at_, .int 0, .int 0, .int 0, .int 0]))]) [0, 1] rfl
  have hKc := hK.sub (tys' := []) [] rfl
  have hDc := hD.sub (ws' := [(x, .inr (13, [.ref pr, .ref op, .ref ma, .ref la, .ref tr, .ref oc, .long 0])), (pr, .inr (10, [.ref av, .ref af, .ref ab, .ref an, .ref at_, .int 0, .int 0, .int 0, .int 0]))]) [0, 1] (by decide) rfl
  have hFc := va_free (wc := [(x, .inr (13, [.ref pr, .ref op, .ref ma, .ref la, .ref tr, .ref oc, .long 0])), (pr, .inr (10, [.ref av, .ref af, .ref ab, .ref an, .ref at_, .int 0, .int 0, .int 0, .int 0]))]) hD hS hA [0, 1] rfl
  refine vx_callv (vx_runV (As := []) (rest := []) ⟨hx, hb, hml, hown, hts⟩ (z_X11_refuseProgramWithoutStart l hlt dC dI x pr op ma la tr oc av af ab an at_ _) (cwV 0 hts (goodIn_sub (ws := wsV RX11 281 RX11 yX11_refuseProgramWithoutStart wz_X11_refuseProgramWithoutStart) (fun w h => (List.mem_cons_of_mem _ (List.mem_append_right _ (List.mem_append_left _ h)))) (by decide +kernel)) rfl rfl rfl (by decide +kernel) ⟨Nat.le_of_ble_eq_true rfl, Nat.le_of_ble_eq_true rfl⟩) ⟨fun a U g mk q => by obtain ⟨q0, q1, qP, qK, qD, qX⟩ := q; exact ⟨q0, q1, qP, va_K.moved (u := U) (U := U.calling g mk a) (Vm.Alike.refl U.vm) qK, qD, xw.blind a g mk qX⟩, va_recv hKc hPc (ci := 13) (q0 := 0) rfl rfl, fun U hU hW => ⟨rfl, by rw [hU], by rw [hU]; exact hPc, va_K.moved hW.alike hKc, hDc.weaken (fun _ _ _ _ => trivial), xw.call hX hS hFc hW hU⟩⟩ rfl rfl hl.1 rfl (lv_room (Nat.le_of_ble_eq_true rfl)) dX11_undefinedOrders_1 ⟨(Nat.le_of_ble_eq_true rfl), (Nat.le_of_ble_eq_true rfl)⟩) hS (fun q _ h => hFc q h) hFc (fun q _ h => hFc q h) (fun E ce q9 u t H1 locs ht hvm hw hB hz1 hk1 hS hq9 hcv hcl => ?_) (fun u t H1 locs ht hvm hw hB hz1 hk1 hS => ?_)
  · have hK1 : va_K (dC, dI) vwCl _ s := hK
    exact vx_out (fun x h => (hno x h).elim) hlocks hq9 hcv hcl (fun t ht hA => ⟨(), trivial, hB, hS.F ht⟩) hS.2.2 (Nat.le_of_ble_eq_true rfl) (Nat.le_of_ble_eq_true rfl)
  · exact absurd hw.1 (by decide)

def wz_X11_optimised : List Cond := .code yX11_optimised cX11_optimised 1 (some .int) :: ([] ++ ((wsV RX11 281 RX11 yX11_refuseProgramWithoutStart wz_X11_refuseProgramWithoutStart) ++ []))
set_option maxHeartbeats 4000000 in
set_option maxRecDepth 100000 in
theorem z_X11_optimised (l : Launch) (hlt : l.stackTraces = false) (dC : Nat → ClassId) (dI : Nat → Nat → Nat) (x : Nat) (pr : Nat) (op : Nat) (ma : Nat) (la : Nat) (tr : Nat) (oc : Nat) (av : Nat) (af : Nat) (ab : Nat) (an : Nat) (at_ : Nat) (sz : Nat) : vx_Met l yX11_optimised wz_X11_optimised ({ frames := 7, cells := 1, slots := 6, locals := 120 }) (va_Pc [.ref x] (fun U => U.heap.size = sz ∧ va_P (dC, dI) vwCl [(x, .inr (13, [.ref pr, .ref op, .ref ma, .ref la, .ref tr, .ref oc, .long 0])), (pr, .inr (10, [.ref av, .ref af, .ref ab, .ref an, .ref at_, .int 0, .int 0, .int 0, .int 0]))] U.heap ∧ va_K (dC, dI) vwCl [] U ∧ va_D (fun _ => True) [(x, .inr (13, [.ref pr, .ref op, .ref ma, .ref la, .ref tr, .ref oc, .long 0])), (pr, .inr (10, [.ref av, .ref af, .ref ab, .ref an, .ref at_, .int 0, .int 0, .int 0, .int 0]))] ∧ xw (va_A [(x, .inr (13, [.ref pr, .ref op, .ref ma, .ref la, .ref tr, .ref oc, .long 0])), (pr, .inr (10, [.ref av, .ref af, .ref ab, .ref an, .ref at_, .int 0, .int 0, .int 0, .int 0]))] sz) U U.heap)) (va_Qi (fun (r : Int32) (_ : Unit) => "java/lang/IllegalStateException" = "" ∧ True) (fun _ t => True) (va_A [(x, .inr (13, [.ref pr, .ref op, .ref ma, .ref la, .ref tr, .ref oc, .long 0])), (pr, .inr (10, [.ref av, .ref af, .ref ab, .ref an, .ref at_, .int 0, .int 0, .int 0, .int 0]))] sz)) (vx_X (fun _ : Unit => True) (fun E _ _ => E = "java/lang/IllegalStateException") (va_A [(x, .inr (13, [.ref pr, .ref op, .ref ma, .ref la, .ref tr, .ref oc, .long 0])), (pr, .inr (10, [.ref av, .ref af, .ref ab, .ref an, .ref at_, .int 0, .int 0, .int 0, .int 0]))] sz)) 1 6 (va_A [(x, .inr (13, [.ref pr, .ref op, .ref ma, .ref la, .ref tr, .ref oc, .long 0])), (pr, .inr (10, [.ref av, .ref af, .ref ab, .ref an, .ref at_, .int 0, .int 0, .int 0, .int 0]))] sz) := by
  refine vx_ofW (cc := cX11_optimised) (maxL := 1) (ret := (some .int)) (by decide +kernel) rfl ?_
  intro p e s m args below meth c s₁ B hml hno hv
  obtain ⟨rfl, hsz, hP, hK, hD0, hX⟩ := hv
  have hx := B.exec
  have hb := B.bytes
  have hr := B.returns
  have hts := atoms_spec (ws := wz_X11_optimised) B.pre
  have hown : s.vm.findClass RX11 = some m.cls := findClass_of_methodNamed B.named
  have hlocks := B.notSynchronized
  subst hsz
  have hD := hD0.self (sz := s.heap.size)
  generalize hAe : va_A [(x, .inr (13, [.ref pr, .ref op, .ref ma, .ref la, .ref tr, .ref oc, .long 0])), (pr, .inr (10, [.ref av, .ref af, .ref ab, .ref an, .ref at_, .int 0, .int 0, .int 0, .int 0]))] s.heap.size = A at hD hX ⊢
  have hA : ∀ q : Nat, s.heap.size ≤ q → A q := fun q h => by rw [← hAe]; exact Or.inr h
  have hS : va_S A s.heap s.heap [] := va_S.rf
  have hP : va_P (dC, dI) vwCl [(x, .inr (13, [.ref pr, .ref op, .ref ma, .ref la, .ref tr, .ref oc, .long 0])), (pr, .inr (10, [.ref av, .ref af, .ref ab, .ref an, .ref at_, .int 0, .int 0, .int 0, .int 0]))] s.heap := hP
  have hl := lv_entry ([.ref x]) (n := 1) (Nat.le_of_ble_eq_true rfl)
  rw [lg_entry_eq]
  generalize (lg_sl ([.ref x]) ++ List.replicate (1 - (lg_sl ([.ref x])).length) Slot.unset).toArray = ls at hl ⊢
  have hl : lv_has ls 1 [(0, .ref x)] := hl
  refine lv_aload_n hx hb dX11_optimised_0 rfl (lv_at hl 0 rfl) ?_
  have hPc := hP.sub (ws' := [(x, .inr (13, [.ref pr, .ref op, .ref ma, .ref la, .ref tr, .ref oc, .long 0])), (pr, .inr (10, [.ref av, .ref af, .ref ab, .ref an, .ref at_, .int 0, .int 0, .int 0, .int 0]))]) [0, 1] rfl
  have hKc := hK.sub (tys' := []) [] rfl
  have hDc := hD.sub (ws' := [(x, .inr (13, [.ref pr, .ref op, .ref ma, .ref la, .ref tr, .ref oc, .long 0])), (pr, .inr (10, [.ref av, .ref af, .ref ab, .ref an, .ref at_, .int 0, .int 0, .int 0, .int 0]))]) [0, 1] (by decide) rfl
  have hFc := va_free (wc := [(x, .inr (13, [.ref pr, .ref op, .ref ma, .ref la, .ref tr, .ref oc, .long 0])), (pr, .inr (10, [.ref av, .ref af, .ref ab, .ref an, .ref at_, .int 0, .int 0, .int 0, .int 0]))]) hD hS hA [0, 1] rfl
  refine vx_callv (vx_runV (As := []) (rest := []) ⟨hx, hb, hml, hown, hts⟩ (z_X11_refuseProgramWithoutStart l hlt dC dI x pr op ma la tr oc av af ab an at_ _) (cwV 0 hts (goodIn_sub (ws := wsV RX11 281 RX11 yX11_refuseProgramWithoutStart wz_X11_refuseProgramWithoutStart) (fun w h => (List.mem_cons_of_mem _ (List.mem_append_right _ (List.mem_append_left _ h)))) (by decide +kernel)) rfl rfl rfl (by decide +kernel) ⟨Nat.le_of_ble_eq_true rfl, Nat.le_of_ble_eq_true rfl⟩) ⟨fun a U g mk q => by obtain ⟨q0, q1, qP, qK, qD, qX⟩ := q; exact ⟨q0, q1, qP, va_K.moved (u := U) (U := U.calling g mk a) (Vm.Alike.refl U.vm) qK, qD, xw.blind a g mk qX⟩, va_recv hKc hPc (ci := 13) (q0 := 0) rfl rfl, fun U hU hW => ⟨rfl, by rw [hU], by rw [hU]; exact hPc, va_K.moved hW.alike hKc, hDc.weaken (fun _ _ _ _ => trivial), xw.call hX hS hFc hW hU⟩⟩ rfl rfl hl.1 rfl (lv_room (Nat.le_of_ble_eq_true rfl)) dX11_optimised_1 ⟨(Nat.le_of_ble_eq_true rfl), (Nat.le_of_ble_eq_true rfl)⟩) hS (fun q _ h => hFc q h) hFc (fun q _ h => hFc q h) (fun E ce q9 u t H1 locs ht hvm hw hB hz1 hk1 hS hq9 hcv hcl => ?_) (fun u t H1 locs ht hvm hw hB hz1 hk1 hS => ?_)
  · have hK1 : va_K (dC, dI) vwCl _ s := hK
    exact vx_out (fun x h => (hno x h).elim) hlocks hq9 hcv hcl (fun t ht hA => ⟨(), trivial, hB, hS.F ht⟩) hS.2.2 (Nat.le_of_ble_eq_true rfl) (Nat.le_of_ble_eq_true rfl)
  · exact absurd hw.1 (by decide)

def wz_X11_optimisedSize : List Cond := .code yX11_optimisedSize cX11_optimisedSize 1 (some .int) :: ([] ++ ((wsV RX11 281 RX11 yX11_refuseProgramWithoutStart wz_X11_refuseProgramWithoutStart) ++ []))
set_option maxHeartbeats 4000000 in
set_option maxRecDepth 100000 in
theorem z_X11_optimisedSize (l : Launch) (hlt : l.stackTraces = false) (dC : Nat → ClassId) (dI : Nat → Nat → Nat) (x : Nat) (pr : Nat) (op : Nat) (ma : Nat) (la : Nat) (tr : Nat) (oc : Nat) (av : Nat) (af : Nat) (ab : Nat) (an : Nat) (at_ : Nat) (sz : Nat) : vx_Met l yX11_optimisedSize wz_X11_optimisedSize ({ frames := 7, cells := 1, slots := 6, locals := 120 }) (va_Pc [.ref x] (fun U => U.heap.size = sz ∧ va_P (dC, dI) vwCl [(x, .inr (13, [.ref pr, .ref op, .ref ma, .ref la, .ref tr, .ref oc, .long 0])), (pr, .inr (10, [.ref av, .ref af, .ref ab, .ref an, .ref at_, .int 0, .int 0, .int 0, .int 0]))] U.heap ∧ va_K (dC, dI) vwCl [] U ∧ va_D (fun _ => True) [(x, .inr (13, [.ref pr, .ref op, .ref ma, .ref la, .ref tr, .ref oc, .long 0])), (pr, .inr (10, [.ref av, .ref af, .ref ab, .ref an, .ref at_, .int 0, .int 0, .int 0, .int 0]))] ∧ xw (va_A [(x, .inr (13, [.ref pr, .ref op, .ref ma, .ref la, .ref tr, .ref oc, .long 0])), (pr, .inr (10, [.ref av, .ref af, .ref ab, .ref an, .ref at_, .int 0, .int 0, .int 0, .int 0]))] sz) U U.heap)) (va_Qi (fun (r : Int32) (_ : Unit) => "java/lang/IllegalStateException" = "" ∧ True) (fun _ t => True) (va_A [(x, .inr (13, [.ref pr, .ref op, .ref ma, .ref la, .ref tr, .ref oc, .long 0])), (pr, .inr (10, [.ref av, .ref af, .ref ab, .ref an, .ref at_, .int 0, .int 0, .int 0, .int 0]))] sz)) (vx_X (fun _ : Unit => True) (fun E _ _ => E = "java/lang/IllegalStateException") (va_A [(x, .inr (13, [.ref pr, .ref op, .ref ma, .ref la, .ref tr, .ref oc, .long 0])), (pr, .inr (10, [.ref av, .ref af, .ref ab, .ref an, .ref at_, .int 0, .int 0, .int 0, .int 0]))] sz)) 1 6 (va_A [(x, .inr (13, [.ref pr, .ref op, .ref ma, .ref la, .ref tr, .ref oc, .long 0])), (pr, .inr (10, [.ref av, .ref af, .ref ab, .ref an, .ref at_, .int 0, .int 0, .int 0, .int 0]))] sz) := by
  refine vx_ofW (cc := cX11_optimisedSize) (maxL := 1) (ret := (some .int)) (by decide +kernel) rfl ?_
  intro p e s m args below meth c s₁ B hml hno hv
  obtain ⟨rfl, hsz, hP, hK, hD0, hX⟩ := hv
  have hx := B.exec
  have hb := B.bytes
  have hr := B.returns
  have hts := atoms_spec (ws := wz_X11_optimisedSize) B.pre
  have hown : s.vm.findClass RX11 = some m.cls := findClass_of_methodNamed B.named
  have hlocks := B.notSynchronized
  subst hsz
  have hD := hD0.self (sz := s.heap.size)
  generalize hAe : va_A [(x, .inr (13, [.ref pr, .ref op, .ref ma, .ref la, .ref tr, .ref oc, .long 0])), (pr, .inr (10, [.ref av, .ref af, .ref ab, .ref an, .ref at_, .int 0, .int 0, .int 0, .int 0]))] s.heap.size = A at hD hX ⊢
  have hA : ∀ q : Nat, s.heap.size ≤ q → A q := fun q h => by rw [← hAe]; exact Or.inr h
  have hS : va_S A s.heap s.heap [] := va_S.rf
  have hP : va_P (dC, dI) vwCl [(x, .inr (13, [.ref pr, .ref op, .ref ma, .ref la, .ref tr, .ref oc, .long 0])), (pr, .inr (10, [.ref av, .ref af, .ref ab, .ref an, .ref at_, .int 0, .int 0, .int 0, .int 0]))] s.heap := hP
  have hl := lv_entry ([.ref x]) (n := 1) (Nat.le_of_ble_eq_true rfl)
  rw [lg_entry_eq]
  generalize (lg_sl ([.ref x]) ++ List.replicate (1 - (lg_sl ([.ref x])).length) Slot.unset).toArray = ls at hl ⊢
  have hl : lv_has ls 1 [(0, .ref x)] := hl
  refine lv_aload_n hx hb dX11_optimisedSize_0 rfl (lv_at hl 0 rfl) ?_
  have hPc := hP.sub (ws' := [(x, .inr (13, [.ref pr, .ref op, .ref ma, .ref la, .ref tr, .ref oc, .long 0])), (pr, .inr (10, [.ref av, .ref af, .ref ab, .ref an, .ref at_, .int 0, .int 0, .int 0, .int 0]))]) [0, 1] rfl
  have hKc := hK.sub (tys' := []) [] rfl
  have hDc := hD.sub (ws' := [(x, .inr (13, [.ref pr, .ref op, .ref ma, .ref la, .ref tr, .ref oc, .long 0])), (pr, .inr (10, [.ref av, .ref af, .ref ab, .ref an, .ref at_, .int 0, .int 0, .int 0, .int 0]))]) [0, 1] (by decide) rfl
  have hFc := va_free (wc := [(x, .inr (13, [.ref pr, .ref op, .ref ma, .ref la, .ref tr, .ref oc, .long 0])), (pr, .inr (10, [.ref av, .ref af, .ref ab, .ref an, .ref at_, .int 0, .int 0, .int 0, .int 0]))]) hD hS hA [0, 1] rfl
  refine vx_callv (vx_runV (As := []) (rest := []) ⟨hx, hb, hml, hown, hts⟩ (z_X11_refuseProgramWithoutStart l hlt dC dI x pr op ma la tr oc av af ab an at_ _) (cwV 0 hts (goodIn_sub (ws := wsV RX11 281 RX11 yX11_refuseProgramWithoutStart wz_X11_refuseProgramWithoutStart) (fun w h => (List.mem_cons_of_mem _ (List.mem_append_right _ (List.mem_append_left _ h)))) (by decide +kernel)) rfl rfl rfl (by decide +kernel) ⟨Nat.le_of_ble_eq_true rfl, Nat.le_of_ble_eq_true rfl⟩) ⟨fun a U g mk q => by obtain ⟨q0, q1, qP, qK, qD, qX⟩ := q; exact ⟨q0, q1, qP, va_K.moved (u := U) (U := U.calling g mk a) (Vm.Alike.refl U.vm) qK, qD, xw.blind a g mk qX⟩, va_recv hKc hPc (ci := 13) (q0 := 0) rfl rfl, fun U hU hW => ⟨rfl, by rw [hU], by rw [hU]; exact hPc, va_K.moved hW.alike hKc, hDc.weaken (fun _ _ _ _ => trivial), xw.call hX hS hFc hW hU⟩⟩ rfl rfl hl.1 rfl (lv_room (Nat.le_of_ble_eq_true rfl)) dX11_optimisedSize_1 ⟨(Nat.le_of_ble_eq_true rfl), (Nat.le_of_ble_eq_true rfl)⟩) hS (fun q _ h => hFc q h) hFc (fun q _ h => hFc q h) (fun E ce q9 u t H1 locs ht hvm hw hB hz1 hk1 hS hq9 hcv hcl => ?_) (fun u t H1 locs ht hvm hw hB hz1 hk1 hS => ?_)
  · have hK1 : va_K (dC, dI) vwCl _ s := hK
    exact vx_out (fun x h => (hno x h).elim) hlocks hq9 hcv hcl (fun t ht hA => ⟨(), trivial, hB, hS.F ht⟩) hS.2.2 (Nat.le_of_ble_eq_true rfl) (Nat.le_of_ble_eq_true rfl)
  · exact absurd hw.1 (by decide)

def wz_X11_isAsIf : List Cond := .code yX11_isAsIf cX11_isAsIf 2 (some .boolean) :: ([] ++ ((wsV RX11 281 RX11 yX11_refuseProgramWithoutStart wz_X11_refuseProgramWithoutStart) ++ []))
set_option maxHeartbeats 4000000 in
set_option maxRecDepth 100000 in
theorem z_X11_isAsIf (l : Launch) (hlt : l.stackTraces = false) (dC : Nat → ClassId) (dI : Nat → Nat → Nat) (x : Nat) (pr : Nat) (op : Nat) (ma : Nat) (la : Nat) (tr : Nat) (oc : Nat) (av : Nat) (af : Nat) (ab : Nat) (an : Nat) (at_ : Nat) (sz : Nat) : vx_Met l yX11_isAsIf wz_X11_isAsIf ({ frames := 7, cells := 1, slots := 6, locals := 120 }) (va_Pc [.ref x] (fun U => U.heap.size = sz ∧ va_P (dC, dI) vwCl [(x, .inr (13, [.ref pr, .ref op, .ref ma, .ref la, .ref tr, .ref oc, .long 0])), (pr, .inr (10, [.ref av, .ref af, .ref ab, .ref an, .ref at_, .int 0, .int 0, .int 0, .int 0]))] U.heap ∧ va_K (dC, dI) vwCl [] U ∧ va_D (fun _ => True) [(x, .inr (13, [.ref pr, .ref op, .ref ma, .ref la, .ref tr, .ref oc, .long 0])), (pr, .inr (10, [.ref av, .ref af, .ref ab, .ref an, .ref at_, .int 0, .int 0, .int 0, .int 0]))] ∧ xw (va_A [(x, .inr (13, [.ref pr, .ref op, .ref ma, .ref la, .ref tr, .ref oc, .long 0])), (pr, .inr (10, [.ref av, .ref af, .ref ab, .ref an, .ref at_, .int 0, .int 0, .int 0, .int 0]))] sz) U U.heap)) (va_Qi (fun (r : Int32) (_ : Unit) => "java/lang/IllegalStateException" = "" ∧ True) (fun _ t => True) (va_A [(x, .inr (13, [.ref pr, .ref op, .ref ma, .ref la, .ref tr, .ref oc, .long 0])), (pr, .inr (10, [.ref av, .ref af, .ref ab, .ref an, .ref at_, .int 0, .int 0, .int 0, .int 0]))] sz)) (vx_X (fun _ : Unit => True) (fun E _ _ => E = "java/lang/IllegalStateException") (va_A [(x, .inr (13, [.ref pr, .ref op, .ref ma, .ref la, .ref tr, .ref oc, .long 0])), (pr, .inr (10, [.ref av, .ref af, .ref ab, .ref an, .ref at_, .int 0, .int 0, .int 0, .int 0]))] sz)) 1 6 (va_A [(x, .inr (13, [.ref pr, .ref op, .ref ma, .ref la, .ref tr, .ref oc, .long 0])), (pr, .inr (10, [.ref av, .ref af, .ref ab, .ref an, .ref at_, .int 0, .int 0, .int 0, .int 0]))] sz) := by
  refine vx_ofW (cc := cX11_isAsIf) (maxL := 2) (ret := (some .boolean)) (by decide +kernel) rfl ?_
  intro p e s m args below meth c s₁ B hml hno hv
  obtain ⟨rfl, hsz, hP, hK, hD0, hX⟩ := hv
  have hx := B.exec
  have hb := B.bytes
  have hr := B.returns
  have hts := atoms_spec (ws := wz_X11_isAsIf) B.pre
  have hown : s.vm.findClass RX11 = some m.cls := findClass_of_methodNamed B.named
  have hlocks := B.notSynchronized
  subst hsz
  have hD := hD0.self (sz := s.heap.size)
  generalize hAe : va_A [(x, .inr (13, [.ref pr, .ref op, .ref ma, .ref la, .ref tr, .ref oc, .long 0])), (pr, .inr (10, [.ref av, .ref af, .ref ab, .ref an, .ref at_, .int 0, .int 0, .int 0, .int 0]))] s.heap.size = A at hD hX ⊢
  have hA : ∀ q : Nat, s.heap.size ≤ q → A q := fun q h => by rw [← hAe]; exact Or.inr h
  have hS : va_S A s.heap s.heap [] := va_S.rf
  have hP : va_P (dC, dI) vwCl [(x, .inr (13, [.ref pr, .ref op, .ref ma, .ref la, .ref tr, .ref oc, .long 0])), (pr, .inr (10, [.ref av, .ref af, .ref ab, .ref an, .ref at_, .int 0, .int 0, .int 0, .int 0]))] s.heap := hP
  have hl := lv_entry ([.ref x]) (n := 2) (Nat.le_of_ble_eq_true rfl)
  rw [lg_entry_eq]
  generalize (lg_sl ([.ref x]) ++ List.replicate (2 - (lg_sl ([.ref x])).length) Slot.unset).toArray = ls at hl ⊢
  have hl : lv_has ls 2 [(0, .ref x)] := hl
  refine lv_aload_n hx hb dX11_isAsIf_0 rfl (lv_at hl 0 rfl) ?_
  have hPc := hP.sub (ws' := [(x, .inr (13, [.ref pr, .ref op, .ref ma, .ref la, .ref tr, .ref oc, .long 0])), (pr, .inr (10, [.ref av, .ref af, .ref ab, .ref an, .ref at_, .int 0, .int 0, .int 0, .int 0]))]) [0, 1] rfl
  have hKc := hK.sub (tys' := []) [] rfl
  have hDc := hD.sub (ws' := [(x, .inr (13, [.ref pr, .ref op, .ref ma, .ref la, .ref tr, .ref oc, .long 0])), (pr, .inr (10, [.ref av, .ref af, .ref ab, .ref an, .ref at_, .int 0, .int 0, .int 0, .int 0]))]) [0, 1] (by decide) rfl
  have hFc := va_free (wc := [(x, .inr (13, [.ref pr, .ref op, .ref ma, .ref la, .ref tr, .ref oc, .long 0])), (pr, .inr (10, [.ref av, .ref af, .ref ab, .ref an, .ref at_, .int 0, .int 0, .int 0, .int 0]))]) hD hS hA [0, 1] rfl
  refine vx_callv (vx_runV (As := []) (rest := []) ⟨hx, hb, hml, hown, hts⟩ (z_X11_refuseProgramWithoutStart l hlt dC dI x pr op ma la tr oc av af ab an at_ _) (cwV 0 hts (goodIn_sub (ws := wsV RX11 281 RX11 yX11_refuseProgramWithoutStart wz_X11_refuseProgramWithoutStart) (fun w h => (List.mem_cons_of_mem _ (List.mem_append_right _ (List.mem_append_left _ h)))) (by decide +kernel)) rfl rfl rfl (by decide +kernel) ⟨Nat.le_of_ble_eq_true rfl, Nat.le_of_ble_eq_true rfl⟩) ⟨fun a U g mk q => by obtain ⟨q0, q1, qP, qK, qD, qX⟩ := q; exact ⟨q0, q1, qP, va_K.moved (u := U) (U := U.calling g mk a) (Vm.Alike.refl U.vm) qK, qD, xw.blind a g mk qX⟩, va_recv hKc hPc (ci := 13) (q0 := 0) rfl rfl, fun U hU hW => ⟨rfl, by rw [hU], by rw [hU]; exact hPc, va_K.moved hW.alike hKc, hDc.weaken (fun _ _ _ _ => trivial), xw.call hX hS hFc hW hU⟩⟩ rfl rfl hl.1 rfl (lv_room (Nat.le_of_ble_eq_true rfl)) dX11_isAsIf_1 ⟨(Nat.le_of_ble_eq_true rfl), (Nat.le_of_ble_eq_true rfl)⟩) hS (fun q _ h => hFc q h) hFc (fun q _ h => hFc q h) (fun E ce q9 u t H1 locs ht hvm hw hB hz1 hk1 hS hq9 hcv hcl => ?_) (fun u t H1 locs ht hvm hw hB hz1 hk1 hS => ?_)
  · have hK1 : va_K (dC, dI) vwCl _ s := hK
    exact vx_out (fun x h => (hno x h).elim) hlocks hq9 hcv hcl (fun t ht hA => ⟨(), trivial, hB, hS.F ht⟩) hS.2.2 (Nat.le_of_ble_eq_true rfl) (Nat.le_of_ble_eq_true rfl)
  · exact absurd hw.1 (by decide)

def wz_X11_definedShare : List Cond := .code yX11_definedShare cX11_definedShare 1 (some .float) :: ([] ++ ((wsV RX11 281 RX11 yX11_refuseProgramWithoutStart wz_X11_refuseProgramWithoutStart) ++ []))
set_option maxHeartbeats 4000000 in
set_option maxRecDepth 100000 in
theorem z_X11_definedShare (l : Launch) (hlt : l.stackTraces = false) (dC : Nat → ClassId) (dI : Nat → Nat → Nat) (x : Nat) (pr : Nat) (op : Nat) (ma : Nat) (la : Nat) (tr : Nat) (oc : Nat) (av : Nat) (af : Nat) (ab : Nat) (an : Nat) (at_ : Nat) (sz : Nat) : vx_Met l yX11_definedShare wz_X11_definedShare ({ frames := 7, cells := 1, slots := 6, locals := 120 }) (va_Pc [.ref x] (fun U => U.heap.size = sz ∧ va_P (dC, dI) vwCl [(x, .inr (13, [.ref pr, .ref op, .ref ma, .ref la, .ref tr, .ref oc, .long 0])), (pr, .inr (10, [.ref av, .ref af, .ref ab, .ref an, .ref at_, .int 0, .int 0, .int 0, .int 0]))] U.heap ∧ va_K (dC, dI) vwCl [] U ∧ va_D (fun _ => True) [(x, .inr (13, [.ref pr, .ref op, .ref ma, .ref la, .ref tr, .ref oc, .long 0])), (pr, .inr (10, [.ref av, .ref af, .ref ab, .ref an, .ref at_, .int 0, .int 0, .int 0, .int 0]))] ∧ xw (va_A [(x, .inr (13, [.ref pr, .ref op, .ref ma, .ref la, .ref tr, .ref oc, .long 0])), (pr, .inr (10, [.ref av, .ref af, .ref ab, .ref an, .ref at_, .int 0, .int 0, .int 0, .int 0]))] sz) U U.heap)) (va_Qf (fun (r : UInt32) (_ : Unit) => "java/lang/IllegalStateException" = "" ∧ True) (fun _ t => True) (va_A [(x, .inr (13, [.ref pr, .ref op, .ref ma, .ref la, .ref tr, .ref oc, .long 0])), (pr, .inr (10, [.ref av, .ref af, .ref ab, .ref an, .ref at_, .int 0, .int 0, .int 0, .int 0]))] sz)) (vx_X (fun _ : Unit => True) (fun E _ _ => E = "java/lang/IllegalStateException") (va_A [(x, .inr (13, [.ref pr, .ref op, .ref ma, .ref la, .ref tr, .ref oc, .long 0])), (pr, .inr (10, [.ref av, .ref af, .ref ab, .ref an, .ref at_, .int 0, .int 0, .int 0, .int 0]))] sz)) 1 6 (va_A [(x, .inr (13, [.ref pr, .ref op, .ref ma, .ref la, .ref tr, .ref oc, .long 0])), (pr, .inr (10, [.ref av, .ref af, .ref ab, .ref an, .ref at_, .int 0, .int 0, .int 0, .int 0]))] sz) := by
  refine vx_ofW (cc := cX11_definedShare) (maxL := 1) (ret := (some .float)) (by decide +kernel) rfl ?_
  intro p e s m args below meth c s₁ B hml hno hv
  obtain ⟨rfl, hsz, hP, hK, hD0, hX⟩ := hv
  have hx := B.exec
  have hb := B.bytes
  have hr := B.returns
  have hts := atoms_spec (ws := wz_X11_definedShare) B.pre
  have hown : s.vm.findClass RX11 = some m.cls := findClass_of_methodNamed B.named
  have hlocks := B.notSynchronized
  subst hsz
  have hD := hD0.self (sz := s.heap.size)
  generalize hAe : va_A [(x, .inr (13, [.ref pr, .ref op, .ref ma, .ref la, .ref tr, .ref oc, .long 0])), (pr, .inr (10, [.ref av, .ref af, .ref ab, .ref an, .ref at_, .int 0, .int 0, .int 0, .int 0]))] s.heap.size = A at hD hX ⊢
  have hA : ∀ q : Nat, s.heap.size ≤ q → A q := fun q h => by rw [← hAe]; exact Or.inr h
  have hS : va_S A s.heap s.heap [] := va_S.rf
  have hP : va_P (dC, dI) vwCl [(x, .inr (13, [.ref pr, .ref op, .ref ma, .ref la, .ref tr, .ref oc, .long 0])), (pr, .inr (10, [.ref av, .ref af, .ref ab, .ref an, .ref at_, .int 0, .int 0, .int 0, .int 0]))] s.heap := hP
  have hl := lv_entry ([.ref x]) (n := 1) (Nat.le_of_ble_eq_true rfl)
  rw [lg_entry_eq]
  generalize (lg_sl ([.ref x]) ++ List.replicate (1 - (lg_sl ([.ref x])).length) Slot.unset).toArray = ls at hl ⊢
  have hl : lv_has ls 1 [(0, .ref x)] := hl
  refine lv_aload_n hx hb dX11_definedShare_0 rfl (lv_at hl 0 rfl) ?_
  have hPc := hP.sub (ws' := [(x, .inr (13, [.ref pr, .ref op, .ref ma, .ref la, .ref tr, .ref oc, .long 0])), (pr, .inr (10, [.ref av, .ref af, .ref ab, .ref an, .ref at_, .int 0, .int 0, .int 0, .int 0]))]) [0, 1] rfl
  have hKc := hK.sub (tys' := []) [] rfl
  have hDc := hD.sub (ws' := [(x, .inr (13, [.ref pr, .ref op, .ref ma, .ref la, .ref tr, .ref oc, .long 0])), (pr, .inr (10, [.ref av, .ref af, .ref ab, .ref an, .ref at_, .int 0, .int 0, .int 0, .int 0]))]) [0, 1] (by decide) rfl
  have hFc := va_free (wc := [(x, .inr (13, [.ref pr, .ref op, .ref ma, .ref la, .ref tr, .ref oc, .long 0])), (pr, .inr (10, [.ref av, .ref af, .ref ab, .ref an, .ref at_, .int 0, .int 0, .int 0, .int 0]))]) hD hS hA [0, 1] rfl
  refine vx_callv (vx_runV (As := []) (rest := []) ⟨hx, hb, hml, hown, hts⟩ (z_X11_refuseProgramWithoutStart l hlt dC dI x pr op ma la tr oc av af ab an at_ _) (cwV 0 hts (goodIn_sub (ws := wsV RX11 281 RX11 yX11_refuseProgramWithoutStart wz_X11_refuseProgramWithoutStart) (fun w h => (List.mem_cons_of_mem _ (List.mem_append_right _ (List.mem_append_left _ h)))) (by decide +kernel)) rfl rfl rfl (by decide +kernel) ⟨Nat.le_of_ble_eq_true rfl, Nat.le_of_ble_eq_true rfl⟩) ⟨fun a U g mk q => by obtain ⟨q0, q1, qP, qK, qD, qX⟩ := q; exact ⟨q0, q1, qP, va_K.moved (u := U) (U := U.calling g mk a) (Vm.Alike.refl U.vm) qK, qD, xw.blind a g mk qX⟩, va_recv hKc hPc (ci := 13) (q0 := 0) rfl rfl, fun U hU hW => ⟨rfl, by rw [hU], by rw [hU]; exact hPc, va_K.moved hW.alike hKc, hDc.weaken (fun _ _ _ _ => trivial), xw.call hX hS hFc hW hU⟩⟩ rfl rfl hl.1 rfl (lv_room (Nat.le_of_ble_eq_true rfl)) dX11_definedShare_1 ⟨(Nat.le_of_ble_eq_true rfl), (Nat.le_of_ble_eq_true rfl)⟩) hS (fun q _ h => hFc q h) hFc (fun q _ h => hFc q h) (fun E ce q9 u t H1 locs ht hvm hw hB hz1 hk1 hS hq9 hcv hcl => ?_) (fun u t H1 locs ht hvm hw hB hz1 hk1 hS => ?_)
  · have hK1 : va_K (dC, dI) vwCl _ s := hK
    exact vx_out (fun x h => (hno x h).elim) hlocks hq9 hcv hcl (fun t ht hA => ⟨(), trivial, hB, hS.F ht⟩) hS.2.2 (Nat.le_of_ble_eq_true rfl) (Nat.le_of_ble_eq_true rfl)
  · exact absurd hw.1 (by decide)

def wz_X11_run : List Cond := .code yX11_run cX11_run 2 (some .char) :: ([] ++ ((wsV RX11 281 RX11 yX11_refuseProgramWithoutStart wz_X11_refuseProgramWithoutStart) ++ []))
set_option maxHeartbeats 4000000 in
set_option maxRecDepth 100000 in
theorem z_X11_run (l : Launch) (hlt : l.stackTraces = false) (dC : Nat → ClassId) (dI : Nat → Nat → Nat) (x : Nat) (pr : Nat) (op : Nat) (ma : Nat) (la : Nat) (tr : Nat) (oc : Nat) (av : Nat) (af : Nat) (ab : Nat) (an : Nat) (at_ : Nat) (i : Int32) (sz : Nat) : vx_Met l yX11_run wz_X11_run ({ frames := 7, cells := 1, slots := 6, locals := 120 }) (va_Pc [.ref x, .int i] (fun U => U.heap.size = sz ∧ va_P (dC, dI) vwCl [(x, .inr (13, [.ref pr, .ref op, .ref ma, .ref la, .ref tr, .ref oc, .long 0])), (pr, .inr (10, [.ref av, .ref af, .ref ab, .ref an, .ref at_, .int 0, .int 0, .int 0, .int 0]))] U.heap ∧ va_K (dC, dI) vwCl [] U ∧ va_D (fun _ => True) [(x, .inr (13, [.ref pr, .ref op, .ref ma, .ref la, .ref tr, .ref oc, .long 0])), (pr, .inr (10, [.ref av, .ref af, .ref ab, .ref an, .ref at_, .int 0, .int 0, .int 0, .int 0]))] ∧ xw (va_A [(x, .inr (13, [.ref pr, .ref op, .ref ma, .ref la, .ref tr, .ref oc, .long 0])), (pr, .inr (10, [.ref av, .ref af, .ref ab, .ref an, .ref at_, .int 0, .int 0, .int 0, .int 0]))] sz) U U.heap)) (va_Qi (fun (r : Int32) (_ : Unit) => "java/lang/IllegalStateException" = "" ∧ True) (fun _ t => True) (va_A [(x, .inr (13, [.ref pr, .ref op, .ref ma, .ref la, .ref tr, .ref oc, .long 0])), (pr, .inr (10, [.ref av, .ref af, .ref ab, .ref an, .ref at_, .int 0, .int 0, .int 0, .int 0]))] sz)) (vx_X (fun _ : Unit => True) (fun E _ _ => E = "java/lang/IllegalStateException") (va_A [(x, .inr (13, [.ref pr, .ref op, .ref ma, .ref la, .ref tr, .ref oc, .long 0])), (pr, .inr (10, [.ref av, .ref af, .ref ab, .ref an, .ref at_, .int 0, .int 0, .int 0, .int 0]))] sz)) 1 6 (va_A [(x, .inr (13, [.ref pr, .ref op, .ref ma, .ref la, .ref tr, .ref oc, .long 0])), (pr, .inr (10, [.ref av, .ref af, .ref ab, .ref an, .ref at_, .int 0, .int 0, .int 0, .int 0]))] sz) := by
  refine vx_ofW (cc := cX11_run) (maxL := 2) (ret := (some .char)) (by decide +kernel) rfl ?_
  intro p e s m args below meth c s₁ B hml hno hv
  obtain ⟨rfl, hsz, hP, hK, hD0, hX⟩ := hv
  have hx := B.exec
  have hb := B.bytes
  have hr := B.returns
  have hts := atoms_spec (ws := wz_X11_run) B.pre
  have hown : s.vm.findClass RX11 = some m.cls := findClass_of_methodNamed B.named
  have hlocks := B.notSynchronized
  subst hsz
  have hD := hD0.self (sz := s.heap.size)
  generalize hAe : va_A [(x, .inr (13, [.ref pr, .ref op, .ref ma, .ref la, .ref tr, .ref oc, .long 0])), (pr, .inr (10, [.ref av, .ref af, .ref ab, .ref an, .ref at_, .int 0, .int 0, .int 0, .int 0]))] s.heap.size = A at hD hX ⊢
  have hA : ∀ q : Nat, s.heap.size ≤ q → A q := fun q h => by rw [← hAe]; exact Or.inr h
  have hS : va_S A s.heap s.heap [] := va_S.rf
  have hP : va_P (dC, dI) vwCl [(x, .inr (13, [.ref pr, .ref op, .ref ma, .ref la, .ref tr, .ref oc, .long 0])), (pr, .inr (10, [.ref av, .ref af, .ref ab, .ref an, .ref at_, .int 0, .int 0, .int 0, .int 0]))] s.heap := hP
  have hl := lv_entry ([.ref x, .int i]) (n := 2) (Nat.le_of_ble_eq_true rfl)
  rw [lg_entry_eq]
  generalize (lg_sl ([.ref x, .int i]) ++ List.replicate (2 - (lg_sl ([.ref x, .int i])).length) Slot.unset).toArray = ls at hl ⊢
  have hl : lv_has ls 2 [(0, .ref x), (1, .int i)] := hl
  refine lv_aload_n hx hb dX11_run_0 rfl (lv_at hl 0 rfl) ?_
  have hPc := hP.sub (ws' := [(x, .inr (13, [.ref pr, .ref op, .ref ma, .ref la, .ref tr, .ref oc, .long 0])), (pr, .inr (10, [.ref av, .ref af, .ref ab, .ref an, .ref at_, .int 0, .int 0, .int 0, .int 0]))]) [0, 1] rfl
  have hKc := hK.sub (tys' := []) [] rfl
  have hDc := hD.sub (ws' := [(x, .inr (13, [.ref pr, .ref op, .ref ma, .ref la, .ref tr, .ref oc, .long 0])), (pr, .inr (10, [.ref av, .ref af, .ref ab, .ref an, .ref at_, .int 0, .int 0, .int 0, .int 0]))]) [0, 1] (by decide) rfl
  have hFc := va_free (wc := [(x, .inr (13, [.ref pr, .ref op, .ref ma, .ref la, .ref tr, .ref oc, .long 0])), (pr, .inr (10, [.ref av, .ref af, .ref ab, .ref an, .ref at_, .int 0, .int 0, .int 0, .int 0]))]) hD hS hA [0, 1] rfl
  refine vx_callv (vx_runV (As := []) (rest := []) ⟨hx, hb, hml, hown, hts⟩ (z_X11_refuseProgramWithoutStart l hlt dC dI x pr op ma la tr oc av af ab an at_ _) (cwV 0 hts (goodIn_sub (ws := wsV RX11 281 RX11 yX11_refuseProgramWithoutStart wz_X11_refuseProgramWithoutStart) (fun w h => (List.mem_cons_of_mem _ (List.mem_append_right _ (List.mem_append_left _ h)))) (by decide +kernel)) rfl rfl rfl (by decide +kernel) ⟨Nat.le_of_ble_eq_true rfl, Nat.le_of_ble_eq_true rfl⟩) ⟨fun a U g mk q => by obtain ⟨q0, q1, qP, qK, qD, qX⟩ := q; exact ⟨q0, q1, qP, va_K.moved (u := U) (U := U.calling g mk a) (Vm.Alike.refl U.vm) qK, qD, xw.blind a g mk qX⟩, va_recv hKc hPc (ci := 13) (q0 := 0) rfl rfl, fun U hU hW => ⟨rfl, by rw [hU], by rw [hU]; exact hPc, va_K.moved hW.alike hKc, hDc.weaken (fun _ _ _ _ => trivial), xw.call hX hS hFc hW hU⟩⟩ rfl rfl hl.1 rfl (lv_room (Nat.le_of_ble_eq_true rfl)) dX11_run_1 ⟨(Nat.le_of_ble_eq_true rfl), (Nat.le_of_ble_eq_true rfl)⟩) hS (fun q _ h => hFc q h) hFc (fun q _ h => hFc q h) (fun E ce q9 u t H1 locs ht hvm hw hB hz1 hk1 hS hq9 hcv hcl => ?_) (fun u t H1 locs ht hvm hw hB hz1 hk1 hS => ?_)
  · have hK1 : va_K (dC, dI) vwCl _ s := hK
    exact vx_out (fun x h => (hno x h).elim) hlocks hq9 hcv hcl (fun t ht hA => ⟨(), trivial, hB, hS.F ht⟩) hS.2.2 (Nat.le_of_ble_eq_true rfl) (Nat.le_of_ble_eq_true rfl)
  · exact absurd hw.1 (by decide)

def wz_X11_runOptimised : List Cond := .code yX11_runOptimised cX11_runOptimised 2 (some .char) :: ([] ++ ((wsV RX11 281 RX11 yX11_refuseProgramWithoutStart wz_X11_refuseProgramWithoutStart) ++ []))
set_option maxHeartbeats 4000000 in
set_option maxRecDepth 100000 in
theorem z_X11_runOptimised (l : Launch) (hlt : l.stackTraces = false) (dC : Nat → ClassId) (dI : Nat → Nat → Nat) (x : Nat) (pr : Nat) (op : Nat) (ma : Nat) (la : Nat) (tr : Nat) (oc : Nat) (av : Nat) (af : Nat) (ab : Nat) (an : Nat) (at_ : Nat) (i : Int32) (sz : Nat) : vx_Met l yX11_runOptimised wz_X11_runOptimised ({ frames := 7, cells := 1, slots := 6, locals := 120 }) (va_Pc [.ref x, .int i] (fun U => U.heap.size = sz ∧ va_P (dC, dI) vwCl [(x, .inr (13, [.ref pr, .ref op, .ref ma, .ref la, .ref tr, .ref oc, .long 0])), (pr, .inr (10, [.ref av, .ref af, .ref ab, .ref an, .ref at_, .int 0, .int 0, .int 0, .int 0]))] U.heap ∧ va_K (dC, dI) vwCl [] U ∧ va_D (fun _ => True) [(x, .inr (13, [.ref pr, .ref op, .ref ma, .ref la, .ref tr, .ref oc, .long 0])), (pr, .inr (10, [.ref av, .ref af, .ref ab, .ref an, .ref at_, .int 0, .int 0, .int 0, .int 0]))] ∧ xw (va_A [(x, .inr (13, [.ref pr, .ref op, .ref ma, .ref la, .ref tr, .ref oc, .long 0])), (pr, .inr (10, [.ref av, .ref af, .ref ab, .ref an, .ref at_, .int 0, .int 0, .int 0, .int 0]))] sz) U U.heap)) (va_Qi (fun (r : Int32) (_ : Unit) => "java/lang/IllegalStateException" = "" ∧ True) (fun _ t => True) (va_A [(x, .inr (13, [.ref pr, .ref op, .ref ma, .ref la, .ref tr, .ref oc, .long 0])), (pr, .inr (10, [.ref av, .ref af, .ref ab, .ref an, .ref at_, .int 0, .int 0, .int 0, .int 0]))] sz)) (vx_X (fun _ : Unit => True) (fun E _ _ => E = "java/lang/IllegalStateException") (va_A [(x, .inr (13, [.ref pr, .ref op, .ref ma, .ref la, .ref tr, .ref oc, .long 0])), (pr, .inr (10, [.ref av, .ref af, .ref ab, .ref an, .ref at_, .int 0, .int 0, .int 0, .int 0]))] sz)) 1 6 (va_A [(x, .inr (13, [.ref pr, .ref op, .ref ma, .ref la, .ref tr, .ref oc, .long 0])), (pr, .inr (10, [.ref av, .ref af, .ref ab, .ref an, .ref at_, .int 0, .int 0, .int 0, .int 0]))] sz) := by
  refine vx_ofW (cc := cX11_runOptimised) (maxL := 2) (ret := (some .char)) (by decide +kernel) rfl ?_
  intro p e s m args below meth c s₁ B hml hno hv
  obtain ⟨rfl, hsz, hP, hK, hD0, hX⟩ := hv
  have hx := B.exec
  have hb := B.bytes
  have hr := B.returns
  have hts := atoms_spec (ws := wz_X11_runOptimised) B.pre
  have hown : s.vm.findClass RX11 = some m.cls := findClass_of_methodNamed B.named
  have hlocks := B.notSynchronized
  subst hsz
  have hD := hD0.self (sz := s.heap.size)
  generalize hAe : va_A [(x, .inr (13, [.ref pr, .ref op, .ref ma, .ref la, .ref tr, .ref oc, .long 0])), (pr, .inr (10, [.ref av, .ref af, .ref ab, .ref an, .ref at_, .int 0, .int 0, .int 0, .int 0]))] s.heap.size = A at hD hX ⊢
  have hA : ∀ q : Nat, s.heap.size ≤ q → A q := fun q h => by rw [← hAe]; exact Or.inr h
  have hS : va_S A s.heap s.heap [] := va_S.rf
  have hP : va_P (dC, dI) vwCl [(x, .inr (13, [.ref pr, .ref op, .ref ma, .ref la, .ref tr, .ref oc, .long 0])), (pr, .inr (10, [.ref av, .ref af, .ref ab, .ref an, .ref at_, .int 0, .int 0, .int 0, .int 0]))] s.heap := hP
  have hl := lv_entry ([.ref x, .int i]) (n := 2) (Nat.le_of_ble_eq_true rfl)
  rw [lg_entry_eq]
  generalize (lg_sl ([.ref x, .int i]) ++ List.replicate (2 - (lg_sl ([.ref x, .int i])).length) Slot.unset).toArray = ls at hl ⊢
  have hl : lv_has ls 2 [(0, .ref x), (1, .int i)] := hl
  refine lv_aload_n hx hb dX11_runOptimised_0 rfl (lv_at hl 0 rfl) ?_
  have hPc := hP.sub (ws' := [(x, .inr (13, [.ref pr, .ref op, .ref ma, .ref la, .ref tr, .ref oc, .long 0])), (pr, .inr (10, [.ref av, .ref af, .ref ab, .ref an, .ref at_, .int 0, .int 0, .int 0, .int 0]))]) [0, 1] rfl
  have hKc := hK.sub (tys' := []) [] rfl
  have hDc := hD.sub (ws' := [(x, .inr (13, [.ref pr, .ref op, .ref ma, .ref la, .ref tr, .ref oc, .long 0])), (pr, .inr (10, [.ref av, .ref af, .ref ab, .ref an, .ref at_, .int 0, .int 0, .int 0, .int 0]))]) [0, 1] (by decide) rfl
  have hFc := va_free (wc := [(x, .inr (13, [.ref pr, .ref op, .ref ma, .ref la, .ref tr, .ref oc, .long 0])), (pr, .inr (10, [.ref av, .ref af, .ref ab, .ref an, .ref at_, .int 0, .int 0, .int 0, .int 0]))]) hD hS hA [0, 1] rfl
  refine vx_callv (vx_runV (As := []) (rest := []) ⟨hx, hb, hml, hown, hts⟩ (z_X11_refuseProgramWithoutStart l hlt dC dI x pr op ma la tr oc av af ab an at_ _) (cwV 0 hts (goodIn_sub (ws := wsV RX11 281 RX11 yX11_refuseProgramWithoutStart wz_X11_refuseProgramWithoutStart) (fun w h => (List.mem_cons_of_mem _ (List.mem_append_right _ (List.mem_append_left _ h)))) (by decide +kernel)) rfl rfl rfl (by decide +kernel) ⟨Nat.le_of_ble_eq_true rfl, Nat.le_of_ble_eq_true rfl⟩) ⟨fun a U g mk q => by obtain ⟨q0, q1, qP, qK, qD, qX⟩ := q; exact ⟨q0, q1, qP, va_K.moved (u := U) (U := U.calling g mk a) (Vm.Alike.refl U.vm) qK, qD, xw.blind a g mk qX⟩, va_recv hKc hPc (ci := 13) (q0 := 0) rfl rfl, fun U hU hW => ⟨rfl, by rw [hU], by rw [hU]; exact hPc, va_K.moved hW.alike hKc, hDc.weaken (fun _ _ _ _ => trivial), xw.call hX hS hFc hW hU⟩⟩ rfl rfl hl.1 rfl (lv_room (Nat.le_of_ble_eq_true rfl)) dX11_runOptimised_1 ⟨(Nat.le_of_ble_eq_true rfl), (Nat.le_of_ble_eq_true rfl)⟩) hS (fun q _ h => hFc q h) hFc (fun q _ h => hFc q h) (fun E ce q9 u t H1 locs ht hvm hw hB hz1 hk1 hS hq9 hcv hcl => ?_) (fun u t H1 locs ht hvm hw hB hz1 hk1 hS => ?_)
  · have hK1 : va_K (dC, dI) vwCl _ s := hK
    exact vx_out (fun x h => (hno x h).elim) hlocks hq9 hcv hcl (fun t ht hA => ⟨(), trivial, hB, hS.F ht⟩) hS.2.2 (Nat.le_of_ble_eq_true rfl) (Nat.le_of_ble_eq_true rfl)
  · exact absurd hw.1 (by decide)

def wz_X11_refuseRunWithMeaning : List Cond := .code yX11_refuseRunWithMeaning cX11_refuseRunWithMeaning 1 none :: ([.fieldLink RX11 33 "Sequencepoint" "last" "LSequencepoint$Outcome;", .fieldLink RX11 302 "Sequencepoint$Outcome" "ending" "C", .classLink RX11 327 "java/util/NoSuchElementException", .initialized "java/util/NoSuchElementException"] ++ (wsX110 ++ (wsX60 ++ (((vx_atS RX11 331 "java/util/NoSuchElementException" xw_N).filter goodWord) ++ []))))
set_option maxHeartbeats 4000000 in
set_option maxRecDepth 100000 in
theorem z_X11_refuseRunWithMeaning (l : Launch) (hlt : l.stackTraces = false) (dC : Nat → ClassId) (dI : Nat → Nat → Nat) (x : Nat) (pr : Nat) (op : Nat) (ma : Nat) (la : Nat) (tr : Nat) (oc : Nat) (tx : Nat) (sz : Nat) : vx_Met l yX11_refuseRunWithMeaning wz_X11_refuseRunWithMeaning ({ frames := 6, cells := 1, slots := 6, locals := 100 }) (va_Pc [.ref x] (fun U => U.heap.size = sz ∧ va_P (dC, dI) vwCl [(x, .inr (13, [.ref pr, .ref op, .ref ma, .ref la, .ref tr, .ref oc, .long 0])), (la, .inr (9, [.int 32, .int 32, .int 0, .int 0, .int 0, .int 0, .ref tx]))] U.heap ∧ va_K (dC, dI) vwCl [] U ∧ va_D (fun _ => True) [(x, .inr (13, [.ref pr, .ref op, .ref ma, .ref la, .ref tr, .ref oc, .long 0])), (la, .inr (9, [.int 32, .int 32, .int 0, .int 0, .int 0, .int 0, .ref tx]))] ∧ xw (va_A [(x, .inr (13, [.ref pr, .ref op, .ref ma, .ref la, .ref tr, .ref oc, .long 0])), (la, .inr (9, [.int 32, .int 32, .int 0, .int 0, .int 0, .int 0, .ref tx]))] sz) U U.heap)) (va_Qv (fun _ : Unit => "java/util/NoSuchElementException" = "" ∧ True) (fun _ t => True) (va_A [(x, .inr (13, [.ref pr, .ref op, .ref ma, .ref la, .ref tr, .ref oc, .long 0])), (la, .inr (9, [.int 32, .int 32, .int 0, .int 0, .int 0, .int 0, .ref tx]))] sz)) (vx_X (fun _ : Unit => True) (fun E _ _ => E = "java/util/NoSuchElementException") (va_A [(x, .inr (13, [.ref pr, .ref op, .ref ma, .ref la, .ref tr, .ref oc, .long 0])), (la, .inr (9, [.int 32, .int 32, .int 0, .int 0, .int 0, .int 0, .ref tx]))] sz)) 1 6 (va_A [(x, .inr (13, [.ref pr, .ref op, .ref ma, .ref la, .ref tr, .ref oc, .long 0])), (la, .inr (9, [.int 32, .int 32, .int 0, .int 0, .int 0, .int 0, .ref tx]))] sz) := by
  refine vx_ofW (cc := cX11_refuseRunWithMeaning) (maxL := 1) (ret := none) (by decide +kernel) rfl ?_
  intro p e s m args below meth c s₁ B hml hno hv
  obtain ⟨rfl, hsz, hP, hK, hD0, hX⟩ := hv
  have hx := B.exec
  have hb := B.bytes
  have hr := B.returns
  have hts := atoms_spec (ws := wz_X11_refuseRunWithMeaning) B.pre
  have hown : s.vm.findClass RX11 = some m.cls := findClass_of_methodNamed B.named
  have hlocks := B.notSynchronized
  subst hsz
  have hD := hD0.self (sz := s.heap.size)
  generalize hAe : va_A [(x, .inr (13, [.ref pr, .ref op, .ref ma, .ref la, .ref tr, .ref oc, .long 0])), (la, .inr (9, [.int 32, .int 32, .int 0, .int 0, .int 0, .int 0, .ref tx]))] s.heap.size = A at hD hX ⊢
  have hA : ∀ q : Nat, s.heap.size ≤ q → A q := fun q h => by rw [← hAe]; exact Or.inr h
  have hS : va_S A s.heap s.heap [] := va_S.rf
  have hP : va_P (dC, dI) vwCl [(x, .inr (13, [.ref pr, .ref op, .ref ma, .ref la, .ref tr, .ref oc, .long 0])), (la, .inr (9, [.int 32, .int 32, .int 0, .int 0, .int 0, .int 0, .ref tx]))] s.heap := hP
  have hl := lv_entry ([.ref x]) (n := 1) (Nat.le_of_ble_eq_true rfl)
  rw [lg_entry_eq]
  generalize (lg_sl ([.ref x]) ++ List.replicate (1 - (lg_sl ([.ref x])).length) Slot.unset).toArray = ls at hl ⊢
  have hl : lv_has ls 1 [(0, .ref x)] := hl
  refine lv_aload_n hx hb dX11_refuseRunWithMeaning_0 rfl (lv_at hl 0 rfl) ?_
  refine va_get (D := (dC, dI)) (ci := 13) (v := .ref la) (C := RX11) (T := TX11) (N := 7) hx hb hts (fun w h => (List.mem_cons_of_mem _ (List.mem_append_right _ (List.mem_append_left _ h)))) hown hK hP 0 rfl rfl 3 (by decide) (hts (.fieldLink RX11 33 "Sequencepoint" "last" "LSequencepoint$Outcome;") (by decide +kernel)) (fun _ h9 => h9) rfl dX11_refuseRunWithMeaning_1 ?_
  refine va_get (D := (dC, dI)) (ci := 9) (v := .int 32) (C := RX6) (T := TX6) (N := 7) hx hb hts (fun w h => (List.mem_cons_of_mem _ (List.mem_append_right _ (List.mem_append_right _ (List.mem_append_left _ h))))) hown hK hP 1 rfl rfl 0 (by decide) (hts (.fieldLink RX11 302 "Sequencepoint$Outcome" "ending" "C") (by decide +kernel)) (fun _ h9 => h9) rfl dX11_refuseRunWithMeaning_4 ?_
  refine lv_bipush (v := 120) hx hb dX11_refuseRunWithMeaning_7 (by decide) ?_
  refine lv_icmp_eq (tgt := 23) hx hb dX11_refuseRunWithMeaning_9 (by decide) (fun c_1 => absurd c_1 (by decide)) (fun c_1 => ?_)
  exact xw_throwW (E := "java/util/NoSuchElementException") (text := "nothing without a meaning") (ik := 327) (is := 329) (ic := 331) hx hb hlt hown (by decide +kernel) (by decide +kernel) (hts (.classLink RX11 327 "java/util/NoSuchElementException") (by decide +kernel)) (hts (.initialized "java/util/NoSuchElementException") (by decide +kernel)) (by decide +kernel) (fun w h => hts w (List.mem_cons_of_mem _ (List.mem_append_right _ (List.mem_append_right _ (List.mem_append_right _ (List.mem_append_left _ h)))))) xw_bNSE xw_gNSE hX hS (by rw [hml]; exact hl.1) dX11_refuseRunWithMeaning_12 dX11_refuseRunWithMeaning_15 dX11_refuseRunWithMeaning_16 dX11_refuseRunWithMeaning_19 dX11_refuseRunWithMeaning_22 hno (Nat.le_of_ble_eq_true rfl) (Nat.le_of_ble_eq_true rfl) (Nat.le_of_ble_eq_true rfl) (Nat.le_of_ble_eq_true rfl) hlocks (fun t h1 h2 => ⟨(), trivial, rfl, h2⟩) hS.2.2 (Nat.le_of_ble_eq_true rfl) (Nat.le_of_ble_eq_true rfl)

def wz_X11_kindOf : List Cond := .code yX11_kindOf cX11_kindOf 1 (some .char) :: ([] ++ ((wsV RX11 318 RX11 yX11_refuseRunWithMeaning wz_X11_refuseRunWithMeaning) ++ []))
set_option maxHeartbeats 4000000 in
set_option maxRecDepth 100000 in
theorem z_X11_kindOf (l : Launch) (hlt : l.stackTraces = false) (dC : Nat → ClassId) (dI : Nat → Nat → Nat) (x : Nat) (pr : Nat) (op : Nat) (ma : Nat) (la : Nat) (tr : Nat) (oc : Nat) (tx : Nat) (sz : Nat) : vx_Met l yX11_kindOf wz_X11_kindOf ({ frames := 7, cells := 1, slots := 6, locals := 120 }) (va_Pc [.ref x] (fun U => U.heap.size = sz ∧ va_P (dC, dI) vwCl [(x, .inr (13, [.ref pr, .ref op, .ref ma, .ref la, .ref tr, .ref oc, .long 0])), (la, .inr (9, [.int 32, .int 32, .int 0, .int 0, .int 0, .int 0, .ref tx]))] U.heap ∧ va_K (dC, dI) vwCl [] U ∧ va_D (fun _ => True) [(x, .inr (13, [.ref pr, .ref op, .ref ma, .ref la, .ref tr, .ref oc, .long 0])), (la, .inr (9, [.int 32, .int 32, .int 0, .int 0, .int 0, .int 0, .ref tx]))] ∧ xw (va_A [(x, .inr (13, [.ref pr, .ref op, .ref ma, .ref la, .ref tr, .ref oc, .long 0])), (la, .inr (9, [.int 32, .int 32, .int 0, .int 0, .int 0, .int 0, .ref tx]))] sz) U U.heap)) (va_Qi (fun (r : Int32) (_ : Unit) => "java/util/NoSuchElementException" = "" ∧ True) (fun _ t => True) (va_A [(x, .inr (13, [.ref pr, .ref op, .ref ma, .ref la, .ref tr, .ref oc, .long 0])), (la, .inr (9, [.int 32, .int 32, .int 0, .int 0, .int 0, .int 0, .ref tx]))] sz)) (vx_X (fun _ : Unit => True) (fun E _ _ => E = "java/util/NoSuchElementException") (va_A [(x, .inr (13, [.ref pr, .ref op, .ref ma, .ref la, .ref tr, .ref oc, .long 0])), (la, .inr (9, [.int 32, .int 32, .int 0, .int 0, .int 0, .int 0, .ref tx]))] sz)) 1 6 (va_A [(x, .inr (13, [.ref pr, .ref op, .ref ma, .ref la, .ref tr, .ref oc, .long 0])), (la, .inr (9, [.int 32, .int 32, .int 0, .int 0, .int 0, .int 0, .ref tx]))] sz) := by
  refine vx_ofW (cc := cX11_kindOf) (maxL := 1) (ret := (some .char)) (by decide +kernel) rfl ?_
  intro p e s m args below meth c s₁ B hml hno hv
  obtain ⟨rfl, hsz, hP, hK, hD0, hX⟩ := hv
  have hx := B.exec
  have hb := B.bytes
  have hr := B.returns
  have hts := atoms_spec (ws := wz_X11_kindOf) B.pre
  have hown : s.vm.findClass RX11 = some m.cls := findClass_of_methodNamed B.named
  have hlocks := B.notSynchronized
  subst hsz
  have hD := hD0.self (sz := s.heap.size)
  generalize hAe : va_A [(x, .inr (13, [.ref pr, .ref op, .ref ma, .ref la, .ref tr, .ref oc, .long 0])), (la, .inr (9, [.int 32, .int 32, .int 0, .int 0, .int 0, .int 0, .ref tx]))] s.heap.size = A at hD hX ⊢
  have hA : ∀ q : Nat, s.heap.size ≤ q → A q := fun q h => by rw [← hAe]; exact Or.inr h
  have hS : va_S A s.heap s.heap [] := va_S.rf
  have hP : va_P (dC, dI) vwCl [(x, .inr (13, [.ref pr, .ref op, .ref ma, .ref la, .ref tr, .ref oc, .long 0])), (la, .inr (9, [.int 32, .int 32, .int 0, .int 0, .int 0, .int 0, .ref tx]))] s.heap := hP
  have hl := lv_entry ([.ref x]) (n := 1) (Nat.le_of_ble_eq_true rfl)
  rw [lg_entry_eq]
  generalize (lg_sl ([.ref x]) ++ List.replicate (1 - (lg_sl ([.ref x])).length) Slot.unset).toArray = ls at hl ⊢
  have hl : lv_has ls 1 [(0, .ref x)] := hl
  refine lv_aload_n hx hb dX11_kindOf_0 rfl (lv_at hl 0 rfl) ?_
  have hPc := hP.sub (ws' := [(x, .inr (13, [.ref pr, .ref op, .ref ma, .ref la, .ref tr, .ref oc, .long 0])), (la, .inr (9, [.int 32, .int 32, .int 0, .int 0, .int 0, .int 0, .ref tx]))]) [0, 1] rfl
  have hKc := hK.sub (tys' := []) [] rfl
  have hDc := hD.sub (ws' := [(x, .inr (13, [.ref pr, .ref op, .ref ma, .ref la, .ref tr, .ref oc, .long 0])), (la, .inr (9, [.int 32, .int 32, .int 0, .int 0, .int 0, .int 0, .ref tx]))]) [0, 1] (by decide) rfl
  have hFc := va_free (wc := [(x, .inr (13, [.ref pr, .ref op, .ref ma, .ref la, .ref tr, .ref oc, .long 0])), (la, .inr (9, [.int 32, .int 32, .int 0, .int 0, .int 0, .int 0, .ref tx]))]) hD hS hA [0, 1] rfl
  refine vx_callv (vx_runV (As := []) (rest := []) ⟨hx, hb, hml, hown, hts⟩ (z_X11_refuseRunWithMeaning l hlt dC dI x pr op ma la tr oc tx _) (cwV 0 hts (goodIn_sub (ws := wsV RX11 318 RX11 yX11_refuseRunWithMeaning wz_X11_refuseRunWithMeaning) (fun w h => (List.mem_cons_of_mem _ (List.mem_append_right _ (List.mem_append_left _ h)))) (by decide +kernel)) rfl rfl rfl (by decide +kernel) ⟨Nat.le_of_ble_eq_true rfl, Nat.le_of_ble_eq_true rfl⟩) ⟨fun a U g mk q => by obtain ⟨q0, q1, qP, qK, qD, qX⟩ := q; exact ⟨q0, q1, qP, va_K.moved (u := U) (U := U.calling g mk a) (Vm.Alike.refl U.vm) qK, qD, xw.blind a g mk qX⟩, va_recv hKc hPc (ci := 13) (q0 := 0) rfl rfl, fun U hU hW => ⟨rfl, by rw [hU], by rw [hU]; exact hPc, va_K.moved hW.alike hKc, hDc.weaken (fun _ _ _ _ => trivial), xw.call hX hS hFc hW hU⟩⟩ rfl rfl hl.1 rfl (lv_room (Nat.le_of_ble_eq_true rfl)) dX11_kindOf_1 ⟨(Nat.le_of_ble_eq_true rfl), (Nat.le_of_ble_eq_true rfl)⟩) hS (fun q _ h => hFc q h) hFc (fun q _ h => hFc q h) (fun E ce q9 u t H1 locs ht hvm hw hB hz1 hk1 hS hq9 hcv hcl => ?_) (fun u t H1 locs ht hvm hw hB hz1 hk1 hS => ?_)
  · have hK1 : va_K (dC, dI) vwCl _ s := hK
    exact vx_out (fun x h => (hno x h).elim) hlocks hq9 hcv hcl (fun t ht hA => ⟨(), trivial, hB, hS.F ht⟩) hS.2.2 (Nat.le_of_ble_eq_true rfl) (Nat.le_of_ble_eq_true rfl)
  · exact absurd hw.1 (by decide)

def wz_X11_placeOf : List Cond := .code yX11_placeOf cX11_placeOf 1 (some .int) :: ([] ++ ((wsV RX11 318 RX11 yX11_refuseRunWithMeaning wz_X11_refuseRunWithMeaning) ++ []))
set_option maxHeartbeats 4000000 in
set_option maxRecDepth 100000 in
theorem z_X11_placeOf (l : Launch) (hlt : l.stackTraces = false) (dC : Nat → ClassId) (dI : Nat → Nat → Nat) (x : Nat) (pr : Nat) (op : Nat) (ma : Nat) (la : Nat) (tr : Nat) (oc : Nat) (tx : Nat) (sz : Nat) : vx_Met l yX11_placeOf wz_X11_placeOf ({ frames := 7, cells := 1, slots := 6, locals := 120 }) (va_Pc [.ref x] (fun U => U.heap.size = sz ∧ va_P (dC, dI) vwCl [(x, .inr (13, [.ref pr, .ref op, .ref ma, .ref la, .ref tr, .ref oc, .long 0])), (la, .inr (9, [.int 32, .int 32, .int 0, .int 0, .int 0, .int 0, .ref tx]))] U.heap ∧ va_K (dC, dI) vwCl [] U ∧ va_D (fun _ => True) [(x, .inr (13, [.ref pr, .ref op, .ref ma, .ref la, .ref tr, .ref oc, .long 0])), (la, .inr (9, [.int 32, .int 32, .int 0, .int 0, .int 0, .int 0, .ref tx]))] ∧ xw (va_A [(x, .inr (13, [.ref pr, .ref op, .ref ma, .ref la, .ref tr, .ref oc, .long 0])), (la, .inr (9, [.int 32, .int 32, .int 0, .int 0, .int 0, .int 0, .ref tx]))] sz) U U.heap)) (va_Qi (fun (r : Int32) (_ : Unit) => "java/util/NoSuchElementException" = "" ∧ True) (fun _ t => True) (va_A [(x, .inr (13, [.ref pr, .ref op, .ref ma, .ref la, .ref tr, .ref oc, .long 0])), (la, .inr (9, [.int 32, .int 32, .int 0, .int 0, .int 0, .int 0, .ref tx]))] sz)) (vx_X (fun _ : Unit => True) (fun E _ _ => E = "java/util/NoSuchElementException") (va_A [(x, .inr (13, [.ref pr, .ref op, .ref ma, .ref la, .ref tr, .ref oc, .long 0])), (la, .inr (9, [.int 32, .int 32, .int 0, .int 0, .int 0, .int 0, .ref tx]))] sz)) 1 6 (va_A [(x, .inr (13, [.ref pr, .ref op, .ref ma, .ref la, .ref tr, .ref oc, .long 0])), (la, .inr (9, [.int 32, .int 32, .int 0, .int 0, .int 0, .int 0, .ref tx]))] sz) := by
  refine vx_ofW (cc := cX11_placeOf) (maxL := 1) (ret := (some .int)) (by decide +kernel) rfl ?_
  intro p e s m args below meth c s₁ B hml hno hv
  obtain ⟨rfl, hsz, hP, hK, hD0, hX⟩ := hv
  have hx := B.exec
  have hb := B.bytes
  have hr := B.returns
  have hts := atoms_spec (ws := wz_X11_placeOf) B.pre
  have hown : s.vm.findClass RX11 = some m.cls := findClass_of_methodNamed B.named
  have hlocks := B.notSynchronized
  subst hsz
  have hD := hD0.self (sz := s.heap.size)
  generalize hAe : va_A [(x, .inr (13, [.ref pr, .ref op, .ref ma, .ref la, .ref tr, .ref oc, .long 0])), (la, .inr (9, [.int 32, .int 32, .int 0, .int 0, .int 0, .int 0, .ref tx]))] s.heap.size = A at hD hX ⊢
  have hA : ∀ q : Nat, s.heap.size ≤ q → A q := fun q h => by rw [← hAe]; exact Or.inr h
  have hS : va_S A s.heap s.heap [] := va_S.rf
  have hP : va_P (dC, dI) vwCl [(x, .inr (13, [.ref pr, .ref op, .ref ma, .ref la, .ref tr, .ref oc, .long 0])), (la, .inr (9, [.int 32, .int 32, .int 0, .int 0, .int 0, .int 0, .ref tx]))] s.heap := hP
  have hl := lv_entry ([.ref x]) (n := 1) (Nat.le_of_ble_eq_true rfl)
  rw [lg_entry_eq]
  generalize (lg_sl ([.ref x]) ++ List.replicate (1 - (lg_sl ([.ref x])).length) Slot.unset).toArray = ls at hl ⊢
  have hl : lv_has ls 1 [(0, .ref x)] := hl
  refine lv_aload_n hx hb dX11_placeOf_0 rfl (lv_at hl 0 rfl) ?_
  have hPc := hP.sub (ws' := [(x, .inr (13, [.ref pr, .ref op, .ref ma, .ref la, .ref tr, .ref oc, .long 0])), (la, .inr (9, [.int 32, .int 32, .int 0, .int 0, .int 0, .int 0, .ref tx]))]) [0, 1] rfl
  have hKc := hK.sub (tys' := []) [] rfl
  have hDc := hD.sub (ws' := [(x, .inr (13, [.ref pr, .ref op, .ref ma, .ref la, .ref tr, .ref oc, .long 0])), (la, .inr (9, [.int 32, .int 32, .int 0, .int 0, .int 0, .int 0, .ref tx]))]) [0, 1] (by decide) rfl
  have hFc := va_free (wc := [(x, .inr (13, [.ref pr, .ref op, .ref ma, .ref la, .ref tr, .ref oc, .long 0])), (la, .inr (9, [.int 32, .int 32, .int 0, .int 0, .int 0, .int 0, .ref tx]))]) hD hS hA [0, 1] rfl
  refine vx_callv (vx_runV (As := []) (rest := []) ⟨hx, hb, hml, hown, hts⟩ (z_X11_refuseRunWithMeaning l hlt dC dI x pr op ma la tr oc tx _) (cwV 0 hts (goodIn_sub (ws := wsV RX11 318 RX11 yX11_refuseRunWithMeaning wz_X11_refuseRunWithMeaning) (fun w h => (List.mem_cons_of_mem _ (List.mem_append_right _ (List.mem_append_left _ h)))) (by decide +kernel)) rfl rfl rfl (by decide +kernel) ⟨Nat.le_of_ble_eq_true rfl, Nat.le_of_ble_eq_true rfl⟩) ⟨fun a U g mk q => by obtain ⟨q0, q1, qP, qK, qD, qX⟩ := q; exact ⟨q0, q1, qP, va_K.moved (u := U) (U := U.calling g mk a) (Vm.Alike.refl U.vm) qK, qD, xw.blind a g mk qX⟩, va_recv hKc hPc (ci := 13) (q0 := 0) rfl rfl, fun U hU hW => ⟨rfl, by rw [hU], by rw [hU]; exact hPc, va_K.moved hW.alike hKc, hDc.weaken (fun _ _ _ _ => trivial), xw.call hX hS hFc hW hU⟩⟩ rfl rfl hl.1 rfl (lv_room (Nat.le_of_ble_eq_true rfl)) dX11_placeOf_1 ⟨(Nat.le_of_ble_eq_true rfl), (Nat.le_of_ble_eq_true rfl)⟩) hS (fun q _ h => hFc q h) hFc (fun q _ h => hFc q h) (fun E ce q9 u t H1 locs ht hvm hw hB hz1 hk1 hS hq9 hcv hcl => ?_) (fun u t H1 locs ht hvm hw hB hz1 hk1 hS => ?_)
  · have hK1 : va_K (dC, dI) vwCl _ s := hK
    exact vx_out (fun x h => (hno x h).elim) hlocks hq9 hcv hcl (fun t ht hA => ⟨(), trivial, hB, hS.F ht⟩) hS.2.2 (Nat.le_of_ble_eq_true rfl) (Nat.le_of_ble_eq_true rfl)
  · exact absurd hw.1 (by decide)

def wz_X11_printedAt : List Cond := .code yX11_printedAt cX11_printedAt 2 (some .char) :: ([.classLink RX11 86 "java/lang/IndexOutOfBoundsException", .initialized "java/lang/IndexOutOfBoundsException", .fieldLink RX11 33 "Sequencepoint" "last" "LSequencepoint$Outcome;", .fieldLink RX11 335 "Sequencepoint$Outcome" "length" "I"] ++ (((vx_atS RX11 90 "java/lang/IndexOutOfBoundsException" xw_N).filter goodWord) ++ (wsX110 ++ (wsX60 ++ []))))
set_option maxHeartbeats 4000000 in
set_option maxRecDepth 100000 in
theorem z_X11_printedAt (l : Launch) (hlt : l.stackTraces = false) (dC : Nat → ClassId) (dI : Nat → Nat → Nat) (x : Nat) (pr : Nat) (op : Nat) (ma : Nat) (la : Nat) (tr : Nat) (oc : Nat) (tx : Nat) (i : Int32) (sz : Nat) : vx_Met l yX11_printedAt wz_X11_printedAt ({ frames := 6, cells := 1, slots := 6, locals := 100 }) (va_Pc [.ref x, .int i] (fun U => U.heap.size = sz ∧ va_P (dC, dI) vwCl [(x, .inr (13, [.ref pr, .ref op, .ref ma, .ref la, .ref tr, .ref oc, .long 0])), (la, .inr (9, [.int 32, .int 32, .int 0, .int 0, .int 0, .int 0, .ref tx]))] U.heap ∧ va_K (dC, dI) vwCl [] U ∧ va_D (fun _ => True) [(x, .inr (13, [.ref pr, .ref op, .ref ma, .ref la, .ref tr, .ref oc, .long 0])), (la, .inr (9, [.int 32, .int 32, .int 0, .int 0, .int 0, .int 0, .ref tx]))] ∧ xw (va_A [(x, .inr (13, [.ref pr, .ref op, .ref ma, .ref la, .ref tr, .ref oc, .long 0])), (la, .inr (9, [.int 32, .int 32, .int 0, .int 0, .int 0, .int 0, .ref tx]))] sz) U U.heap)) (va_Qi (fun (r : Int32) (_ : Unit) => "java/lang/IndexOutOfBoundsException" = "" ∧ True) (fun _ t => True) (va_A [(x, .inr (13, [.ref pr, .ref op, .ref ma, .ref la, .ref tr, .ref oc, .long 0])), (la, .inr (9, [.int 32, .int 32, .int 0, .int 0, .int 0, .int 0, .ref tx]))] sz)) (vx_X (fun _ : Unit => True) (fun E _ _ => E = "java/lang/IndexOutOfBoundsException") (va_A [(x, .inr (13, [.ref pr, .ref op, .ref ma, .ref la, .ref tr, .ref oc, .long 0])), (la, .inr (9, [.int 32, .int 32, .int 0, .int 0, .int 0, .int 0, .ref tx]))] sz)) 1 6 (va_A [(x, .inr (13, [.ref pr, .ref op, .ref ma, .ref la, .ref tr, .ref oc, .long 0])), (la, .inr (9, [.int 32, .int 32, .int 0, .int 0, .int 0, .int 0, .ref tx]))] sz) := by
  refine vx_ofW (cc := cX11_printedAt) (maxL := 2) (ret := (some .char)) (by decide +kernel) rfl ?_
  intro p e s m args below meth c s₁ B hml hno hv
  obtain ⟨rfl, hsz, hP, hK, hD0, hX⟩ := hv
  have hx := B.exec
  have hb := B.bytes
  have hr := B.returns
  have hts := atoms_spec (ws := wz_X11_printedAt) B.pre
  have hown : s.vm.findClass RX11 = some m.cls := findClass_of_methodNamed B.named
  have hlocks := B.notSynchronized
  subst hsz
  have hD := hD0.self (sz := s.heap.size)
  generalize hAe : va_A [(x, .inr (13, [.ref pr, .ref op, .ref ma, .ref la, .ref tr, .ref oc, .long 0])), (la, .inr (9, [.int 32, .int 32, .int 0, .int 0, .int 0, .int 0, .ref tx]))] s.heap.size = A at hD hX ⊢
  have hA : ∀ q : Nat, s.heap.size ≤ q → A q := fun q h => by rw [← hAe]; exact Or.inr h
  have hS : va_S A s.heap s.heap [] := va_S.rf
  have hP : va_P (dC, dI) vwCl [(x, .inr (13, [.ref pr, .ref op, .ref ma, .ref la, .ref tr, .ref oc, .long 0])), (la, .inr (9, [.int 32, .int 32, .int 0, .int 0, .int 0, .int 0, .ref tx]))] s.heap := hP
  have hl := lv_entry ([.ref x, .int i]) (n := 2) (Nat.le_of_ble_eq_true rfl)
  rw [lg_entry_eq]
  generalize (lg_sl ([.ref x, .int i]) ++ List.replicate (2 - (lg_sl ([.ref x, .int i])).length) Slot.unset).toArray = ls at hl ⊢
  have hl : lv_has ls 2 [(0, .ref x), (1, .int i)] := hl
  refine lv_iload_n hx hb dX11_printedAt_0 rfl (lv_at hl 1 rfl) ?_
  refine lv_if_lt (tgt := 15) hx hb dX11_printedAt_1 (by decide) (fun c_1 => ?_) (fun c_1 => ?_)
  · exact xw_throwW (E := "java/lang/IndexOutOfBoundsException") (text := "no such character") (ik := 86) (is := 338) (ic := 90) hx hb hlt hown (by decide +kernel) (by decide +kernel) (hts (.classLink RX11 86 "java/lang/IndexOutOfBoundsException") (by decide +kernel)) (hts (.initialized "java/lang/IndexOutOfBoundsException") (by decide +kernel)) (by decide +kernel) (fun w h => hts w (List.mem_cons_of_mem _ (List.mem_append_right _ (List.mem_append_left _ h)))) xw_bIOB xw_gIOB hX hS (by rw [hml]; exact hl.1) dX11_printedAt_15 dX11_printedAt_18 dX11_printedAt_19 dX11_printedAt_22 dX11_printedAt_25 hno (Nat.le_of_ble_eq_true rfl) (Nat.le_of_ble_eq_true rfl) (Nat.le_of_ble_eq_true rfl) (Nat.le_of_ble_eq_true rfl) hlocks (fun t h1 h2 => ⟨(), trivial, rfl, h2⟩) hS.2.2 (Nat.le_of_ble_eq_true rfl) (Nat.le_of_ble_eq_true rfl)
  · refine lv_iload_n hx hb dX11_printedAt_4 rfl (lv_at hl 1 rfl) ?_
    refine lv_aload_n hx hb dX11_printedAt_5 rfl (lv_at hl 0 rfl) ?_
    refine va_get (D := (dC, dI)) (ci := 13) (v := .ref la) (C := RX11) (T := TX11) (N := 7) hx hb hts (fun w h => (List.mem_cons_of_mem _ (List.mem_append_right _ (List.mem_append_right _ (List.mem_append_left _ h))))) hown hK hP 0 rfl rfl 3 (by decide) (hts (.fieldLink RX11 33 "Sequencepoint" "last" "LSequencepoint$Outcome;") (by decide +kernel)) (fun _ h9 => h9) rfl dX11_printedAt_6 ?_
    refine va_get (D := (dC, dI)) (ci := 9) (v := .int 0) (C := RX6) (T := TX6) (N := 7) hx hb hts (fun w h => (List.mem_cons_of_mem _ (List.mem_append_right _ (List.mem_append_right _ (List.mem_append_right _ (List.mem_append_left _ h)))))) hown hK hP 1 rfl rfl 5 (by decide) (hts (.fieldLink RX11 335 "Sequencepoint$Outcome" "length" "I") (by decide +kernel)) (fun _ h9 => h9) rfl dX11_printedAt_9 ?_
    refine lv_icmp_lt (tgt := 26) hx hb dX11_printedAt_12 (by decide) (fun c_2 => absurd c_2 c_1) (fun c_2 => ?_)
    exact xw_throwW (E := "java/lang/IndexOutOfBoundsException") (text := "no such character") (ik := 86) (is := 338) (ic := 90) hx hb hlt hown (by decide +kernel) (by decide +kernel) (hts (.classLink RX11 86 "java/lang/IndexOutOfBoundsException") (by decide +kernel)) (hts (.initialized "java/lang/IndexOutOfBoundsException") (by decide +kernel)) (by decide +kernel) (fun w h => hts w (List.mem_cons_of_mem _ (List.mem_append_right _ (List.mem_append_left _ h)))) xw_bIOB xw_gIOB hX hS (by rw [hml]; exact hl.1) dX11_printedAt_15 dX11_printedAt_18 dX11_printedAt_19 dX11_printedAt_22 dX11_printedAt_25 hno (Nat.le_of_ble_eq_true rfl) (Nat.le_of_ble_eq_true rfl) (Nat.le_of_ble_eq_true rfl) (Nat.le_of_ble_eq_true rfl) hlocks (fun t h1 h2 => ⟨(), trivial, rfl, h2⟩) hS.2.2 (Nat.le_of_ble_eq_true rfl) (Nat.le_of_ble_eq_true rfl)

def wz_X11_steps : List Cond := .code yX11_steps cX11_steps 1 (some .int) :: ([.fieldLink RX11 33 "Sequencepoint" "last" "LSequencepoint$Outcome;", .fieldLink RX11 299 "Sequencepoint$Outcome" "stepCount" "I"] ++ (wsX110 ++ (wsX60 ++ [])))
set_option maxHeartbeats 4000000 in
set_option maxRecDepth 100000 in
theorem z_X11_steps (l : Launch) (dC : Nat → ClassId) (dI : Nat → Nat → Nat) (x : Nat) (pr : Nat) (op : Nat) (ma : Nat) (la : Nat) (tr : Nat) (oc : Nat) (tx : Nat) : Met l yX11_steps wz_X11_steps ({ frames := 0, cells := 0, slots := 0, locals := 0 }) (va_Pc [.ref x] (fun U => va_P (dC, dI) vwCl [(x, .inr (13, [.ref pr, .ref op, .ref ma, .ref la, .ref tr, .ref oc, .long 0])), (la, .inr (9, [.int 32, .int 32, .int 0, .int 0, .int 0, .int 0, .ref tx]))] U.heap ∧ va_K (dC, dI) vwCl [] U)) (vp_Si (fun r => r = 0)) 0 0 (fun _ => False) := by
  refine Met.ofW (cc := cX11_steps) (maxL := 1) (ret := (some .int)) (by decide) rfl ?_
  intro p e s m args below meth c s₁ B hml hv
  obtain ⟨rfl, hP, hK⟩ := hv
  have hx := B.exec
  have hb := B.bytes
  have hr := B.returns
  have hts := atoms_spec (ws := wz_X11_steps) B.pre
  have hown : s.vm.findClass RX11 = some m.cls := findClass_of_methodNamed B.named
  have hlocks := B.notSynchronized
  have hl := lv_entry ([.ref x]) (n := 1) (Nat.le_of_ble_eq_true rfl)
  rw [lg_entry_eq]
  generalize (lg_sl ([.ref x]) ++ List.replicate (1 - (lg_sl ([.ref x])).length) Slot.unset).toArray = ls at hl ⊢
  have hl : lv_has ls 1 [(0, .ref x)] := hl
  have hP : va_P (dC, dI) vwCl [(x, .inr (13, [.ref pr, .ref op, .ref ma, .ref la, .ref tr, .ref oc, .long 0])), (la, .inr (9, [.int 32, .int 32, .int 0, .int 0, .int 0, .int 0, .ref tx]))] s.heap := hP
  refine lv_aload_n hx hb dX11_steps_0 rfl (lv_at hl 0 rfl) ?_
  refine va_get (D := (dC, dI)) (ci := 13) (v := .ref la) (C := RX11) (T := TX11) (N := 7) hx hb hts (fun w h => (List.mem_cons_of_mem _ (List.mem_append_right _ (List.mem_append_left _ h)))) hown hK hP 0 rfl rfl 3 (by decide) (hts (.fieldLink RX11 33 "Sequencepoint" "last" "LSequencepoint$Outcome;") (by decide +kernel)) (fun _ h9 => h9) rfl dX11_steps_1 ?_
  refine va_get (D := (dC, dI)) (ci := 9) (v := .int 0) (C := RX6) (T := TX6) (N := 7) hx hb hts (fun w h => (List.mem_cons_of_mem _ (List.mem_append_right _ (List.mem_append_right _ (List.mem_append_left _ h))))) hown hK hP 1 rfl rfl 3 (by decide) (hts (.fieldLink RX11 299 "Sequencepoint$Outcome" "stepCount" "I") (by decide +kernel)) (fun _ h9 => h9) rfl dX11_steps_4 ?_
  exact W.iret (v := 0) hx hb hr (fun t ht hW => ⟨0, rfl, rfl, ht⟩) (fun q h => nomatch h) dX11_steps_7

def wz_X11_choices : List Cond := .code yX11_choices cX11_choices 1 (some .int) :: ([.fieldLink RX11 33 "Sequencepoint" "last" "LSequencepoint$Outcome;", .fieldLink RX11 332 "Sequencepoint$Outcome" "choiceCount" "I"] ++ (wsX110 ++ (wsX60 ++ [])))
set_option maxHeartbeats 4000000 in
set_option maxRecDepth 100000 in
theorem z_X11_choices (l : Launch) (dC : Nat → ClassId) (dI : Nat → Nat → Nat) (x : Nat) (pr : Nat) (op : Nat) (ma : Nat) (la : Nat) (tr : Nat) (oc : Nat) (tx : Nat) : Met l yX11_choices wz_X11_choices ({ frames := 0, cells := 0, slots := 0, locals := 0 }) (va_Pc [.ref x] (fun U => va_P (dC, dI) vwCl [(x, .inr (13, [.ref pr, .ref op, .ref ma, .ref la, .ref tr, .ref oc, .long 0])), (la, .inr (9, [.int 32, .int 32, .int 0, .int 0, .int 0, .int 0, .ref tx]))] U.heap ∧ va_K (dC, dI) vwCl [] U)) (vp_Si (fun r => r = 0)) 0 0 (fun _ => False) := by
  refine Met.ofW (cc := cX11_choices) (maxL := 1) (ret := (some .int)) (by decide) rfl ?_
  intro p e s m args below meth c s₁ B hml hv
  obtain ⟨rfl, hP, hK⟩ := hv
  have hx := B.exec
  have hb := B.bytes
  have hr := B.returns
  have hts := atoms_spec (ws := wz_X11_choices) B.pre
  have hown : s.vm.findClass RX11 = some m.cls := findClass_of_methodNamed B.named
  have hlocks := B.notSynchronized
  have hl := lv_entry ([.ref x]) (n := 1) (Nat.le_of_ble_eq_true rfl)
  rw [lg_entry_eq]
  generalize (lg_sl ([.ref x]) ++ List.replicate (1 - (lg_sl ([.ref x])).length) Slot.unset).toArray = ls at hl ⊢
  have hl : lv_has ls 1 [(0, .ref x)] := hl
  have hP : va_P (dC, dI) vwCl [(x, .inr (13, [.ref pr, .ref op, .ref ma, .ref la, .ref tr, .ref oc, .long 0])), (la, .inr (9, [.int 32, .int 32, .int 0, .int 0, .int 0, .int 0, .ref tx]))] s.heap := hP
  refine lv_aload_n hx hb dX11_choices_0 rfl (lv_at hl 0 rfl) ?_
  refine va_get (D := (dC, dI)) (ci := 13) (v := .ref la) (C := RX11) (T := TX11) (N := 7) hx hb hts (fun w h => (List.mem_cons_of_mem _ (List.mem_append_right _ (List.mem_append_left _ h)))) hown hK hP 0 rfl rfl 3 (by decide) (hts (.fieldLink RX11 33 "Sequencepoint" "last" "LSequencepoint$Outcome;") (by decide +kernel)) (fun _ h9 => h9) rfl dX11_choices_1 ?_
  refine va_get (D := (dC, dI)) (ci := 9) (v := .int 0) (C := RX6) (T := TX6) (N := 7) hx hb hts (fun w h => (List.mem_cons_of_mem _ (List.mem_append_right _ (List.mem_append_right _ (List.mem_append_left _ h))))) hown hK hP 1 rfl rfl 4 (by decide) (hts (.fieldLink RX11 332 "Sequencepoint$Outcome" "choiceCount" "I") (by decide +kernel)) (fun _ h9 => h9) rfl dX11_choices_4 ?_
  exact W.iret (v := 0) hx hb hr (fun t ht hW => ⟨0, rfl, rfl, ht⟩) (fun q h => nomatch h) dX11_choices_7

def wz_X11_printed : List Cond := .code yX11_printed cX11_printed 1 (some .int) :: ([.fieldLink RX11 33 "Sequencepoint" "last" "LSequencepoint$Outcome;", .fieldLink RX11 335 "Sequencepoint$Outcome" "length" "I"] ++ (wsX110 ++ (wsX60 ++ [])))
set_option maxHeartbeats 4000000 in
set_option maxRecDepth 100000 in
theorem z_X11_printed (l : Launch) (dC : Nat → ClassId) (dI : Nat → Nat → Nat) (x : Nat) (pr : Nat) (op : Nat) (ma : Nat) (la : Nat) (tr : Nat) (oc : Nat) (tx : Nat) : Met l yX11_printed wz_X11_printed ({ frames := 0, cells := 0, slots := 0, locals := 0 }) (va_Pc [.ref x] (fun U => va_P (dC, dI) vwCl [(x, .inr (13, [.ref pr, .ref op, .ref ma, .ref la, .ref tr, .ref oc, .long 0])), (la, .inr (9, [.int 32, .int 32, .int 0, .int 0, .int 0, .int 0, .ref tx]))] U.heap ∧ va_K (dC, dI) vwCl [] U)) (vp_Si (fun r => r = 0)) 0 0 (fun _ => False) := by
  refine Met.ofW (cc := cX11_printed) (maxL := 1) (ret := (some .int)) (by decide) rfl ?_
  intro p e s m args below meth c s₁ B hml hv
  obtain ⟨rfl, hP, hK⟩ := hv
  have hx := B.exec
  have hb := B.bytes
  have hr := B.returns
  have hts := atoms_spec (ws := wz_X11_printed) B.pre
  have hown : s.vm.findClass RX11 = some m.cls := findClass_of_methodNamed B.named
  have hlocks := B.notSynchronized
  have hl := lv_entry ([.ref x]) (n := 1) (Nat.le_of_ble_eq_true rfl)
  rw [lg_entry_eq]
  generalize (lg_sl ([.ref x]) ++ List.replicate (1 - (lg_sl ([.ref x])).length) Slot.unset).toArray = ls at hl ⊢
  have hl : lv_has ls 1 [(0, .ref x)] := hl
  have hP : va_P (dC, dI) vwCl [(x, .inr (13, [.ref pr, .ref op, .ref ma, .ref la, .ref tr, .ref oc, .long 0])), (la, .inr (9, [.int 32, .int 32, .int 0, .int 0, .int 0, .int 0, .ref tx]))] s.heap := hP
  refine lv_aload_n hx hb dX11_printed_0 rfl (lv_at hl 0 rfl) ?_
  refine va_get (D := (dC, dI)) (ci := 13) (v := .ref la) (C := RX11) (T := TX11) (N := 7) hx hb hts (fun w h => (List.mem_cons_of_mem _ (List.mem_append_right _ (List.mem_append_left _ h)))) hown hK hP 0 rfl rfl 3 (by decide) (hts (.fieldLink RX11 33 "Sequencepoint" "last" "LSequencepoint$Outcome;") (by decide +kernel)) (fun _ h9 => h9) rfl dX11_printed_1 ?_
  refine va_get (D := (dC, dI)) (ci := 9) (v := .int 0) (C := RX6) (T := TX6) (N := 7) hx hb hts (fun w h => (List.mem_cons_of_mem _ (List.mem_append_right _ (List.mem_append_right _ (List.mem_append_left _ h))))) hown hK hP 1 rfl rfl 5 (by decide) (hts (.fieldLink RX11 335 "Sequencepoint$Outcome" "length" "I") (by decide +kernel)) (fun _ h9 => h9) rfl dX11_printed_4 ?_
  exact W.iret (v := 0) hx hb hr (fun t ht hW => ⟨0, rfl, rfl, ht⟩) (fun q h => nomatch h) dX11_printed_7

def wz_X11_allSteps : List Cond := .code yX11_allSteps cX11_allSteps 1 (some .long) :: ([.fieldLink RX11 296 "Sequencepoint" "stepsOfAll" "J"] ++ (wsX110 ++ []))
set_option maxHeartbeats 4000000 in
set_option maxRecDepth 100000 in
theorem z_X11_allSteps (l : Launch) (dC : Nat → ClassId) (dI : Nat → Nat → Nat) (x : Nat) (pr : Nat) (op : Nat) (ma : Nat) (la : Nat) (tr : Nat) (oc : Nat) : Met l yX11_allSteps wz_X11_allSteps ({ frames := 0, cells := 0, slots := 0, locals := 0 }) (va_Pc [.ref x] (fun U => va_P (dC, dI) vwCl [(x, .inr (13, [.ref pr, .ref op, .ref ma, .ref la, .ref tr, .ref oc, .long 0]))] U.heap ∧ va_K (dC, dI) vwCl [] U)) (vp_Sl (fun r => r = 0)) 0 0 (fun _ => False) := by
  refine Met.ofW (cc := cX11_allSteps) (maxL := 1) (ret := (some .long)) (by decide) rfl ?_
  intro p e s m args below meth c s₁ B hml hv
  obtain ⟨rfl, hP, hK⟩ := hv
  have hx := B.exec
  have hb := B.bytes
  have hr := B.returns
  have hts := atoms_spec (ws := wz_X11_allSteps) B.pre
  have hown : s.vm.findClass RX11 = some m.cls := findClass_of_methodNamed B.named
  have hlocks := B.notSynchronized
  have hl := lv_entry ([.ref x]) (n := 1) (Nat.le_of_ble_eq_true rfl)
  rw [lg_entry_eq]
  generalize (lg_sl ([.ref x]) ++ List.replicate (1 - (lg_sl ([.ref x])).length) Slot.unset).toArray = ls at hl ⊢
  have hl : lv_has ls 1 [(0, .ref x)] := hl
  have hP : va_P (dC, dI) vwCl [(x, .inr (13, [.ref pr, .ref op, .ref ma, .ref la, .ref tr, .ref oc, .long 0]))] s.heap := hP
  refine lv_aload_n hx hb dX11_allSteps_0 rfl (lv_at hl 0 rfl) ?_
  refine va_get (D := (dC, dI)) (ci := 13) (v := .long 0) (C := RX11) (T := TX11) (N := 7) hx hb hts (fun w h => (List.mem_cons_of_mem _ (List.mem_append_right _ (List.mem_append_left _ h)))) hown hK hP 0 rfl rfl 6 (by decide) (hts (.fieldLink RX11 296 "Sequencepoint" "stepsOfAll" "J") (by decide +kernel)) (fun _ h9 => h9) rfl dX11_allSteps_1 ?_
  exact W.lret (v := 0) hx hb hr (fun t ht hW => ⟨0, rfl, rfl, ht⟩) (fun q h => nomatch h) dX11_allSteps_4
