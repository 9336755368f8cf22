def f_X4_isNumber (x0 : Int32) : Int32 := if x0 < 0 then 0 else if 5 < x0 then 0 else 1
def wc_X4_isNumber : List Cond := .code yX4_isNumber cX4_isNumber 1 (some .boolean) :: ([] ++ ([]))
set_option maxHeartbeats 4000000 in
set_option maxRecDepth 100000 in
theorem c_X4_isNumber (l : Launch) (x0 : Int32) : Met l yX4_isNumber wc_X4_isNumber ({ frames := 0, cells := 0, slots := 0, locals := 0 }) (va_Pc [.int x0] (fun _ => True)) (vp_Si (fun r => r = f_X4_isNumber x0)) 0 0 (fun _ => False) := by
  refine Met.ofW (cc := cX4_isNumber) (maxL := 1) (ret := (some .boolean)) (by decide) rfl ?_
  intro p e s m args below meth c s₁ B hml hv
  obtain ⟨rfl, -⟩ := hv
  have hx := B.exec
  have hb := B.bytes
  have hr := B.returns
  have hts := atoms_spec (ws := wc_X4_isNumber) B.pre
  have hown : s.vm.findClass RX4 = some m.cls := findClass_of_methodNamed B.named
  have hlocks := B.notSynchronized
  have hl := lv_entry ([.int x0]) (n := 1) (Nat.le_of_ble_eq_true rfl)
  rw [lg_entry_eq]
  generalize (lg_sl ([.int x0]) ++ List.replicate (1 - (lg_sl ([.int x0])).length) Slot.unset).toArray = ls at hl ⊢
  have hl : lv_has ls 1 [(0, .int x0)] := hl
  refine lv_iload_n hx hb dX4_isNumber_0 rfl (lv_at hl 0 rfl) ?_
  refine lv_if_lt (tgt := 13) hx hb dX4_isNumber_1 (by decide) (fun c_1 => ?_) (fun c_1 => ?_)
  · refine lv_iconst (v := 0) hx hb dX4_isNumber_13 (by decide) ?_
    exact W.zret (v := 0) hx hb hr (by decide) (fun t ht hW => ⟨0, rfl, by simp only [f_X4_isNumber, if_pos c_1], ht⟩) (fun q h => nomatch h) dX4_isNumber_14
  · refine lv_iload_n hx hb dX4_isNumber_4 rfl (lv_at hl 0 rfl) ?_
    refine lv_iconst (v := 5) hx hb dX4_isNumber_5 (by decide) ?_
    refine lv_icmp_gt (tgt := 13) hx hb dX4_isNumber_6 (by decide) (fun c_2 => ?_) (fun c_2 => ?_)
    · refine lv_iconst (v := 0) hx hb dX4_isNumber_13 (by decide) ?_
      exact W.zret (v := 0) hx hb hr (by decide) (fun t ht hW => ⟨0, rfl, by simp only [f_X4_isNumber, if_neg c_1, if_pos c_2], ht⟩) (fun q h => nomatch h) dX4_isNumber_14
    · refine lv_iconst (v := 1) hx hb dX4_isNumber_9 (by decide) ?_
      refine lv_goto (tgt := 14) hx hb dX4_isNumber_10 (by decide) ?_
      exact W.zret (v := 1) hx hb hr (by decide) (fun t ht hW => ⟨1, rfl, by simp only [f_X4_isNumber, if_neg c_1, if_neg c_2], ht⟩) (fun q h => nomatch h) dX4_isNumber_14

def f_X4_isType (x0 : Int32) : Int32 := if (f_X4_isNumber x0) = 0 then if x0 < 10 then 0 else if (f_X4_isNumber (x0 - 10)) = 0 then 0 else 1 else 1
def wc_X4_isType : List Cond := .code yX4_isType cX4_isType 1 (some .boolean) :: ([] ++ ((va_wsS RX4 9 yX4_isNumber wc_X4_isNumber) ++ []))
set_option maxHeartbeats 4000000 in
set_option maxRecDepth 100000 in
theorem c_X4_isType (l : Launch) (x0 : Int32) : Met l yX4_isType wc_X4_isType ({ frames := 1, cells := 0, slots := 0, locals := 20 }) (va_Pc [.int x0] (fun _ => True)) (vp_Si (fun r => r = f_X4_isType x0)) 0 0 (fun _ => False) := by
  refine Met.ofW (cc := cX4_isType) (maxL := 1) (ret := (some .boolean)) (by decide) rfl ?_
  intro p e s m args below meth c s₁ B hml hv
  obtain ⟨rfl, -⟩ := hv
  have hx := B.exec
  have hb := B.bytes
  have hr := B.returns
  have hts := atoms_spec (ws := wc_X4_isType) B.pre
  have hown : s.vm.findClass RX4 = some m.cls := findClass_of_methodNamed B.named
  have hlocks := B.notSynchronized
  have hl := lv_entry ([.int x0]) (n := 1) (Nat.le_of_ble_eq_true rfl)
  rw [lg_entry_eq]
  generalize (lg_sl ([.int x0]) ++ List.replicate (1 - (lg_sl ([.int x0])).length) Slot.unset).toArray = ls at hl ⊢
  have hl : lv_has ls 1 [(0, .int x0)] := hl
  refine lv_iload_n hx hb dX4_isType_0 rfl (lv_at hl 0 rfl) ?_
  refine vp_callSi (va_Run.run (va_runS (As := [.int x0]) (rest := []) ⟨hx, hb, hml, hown, hts⟩ (c_X4_isNumber l x0) (va_cwS 1 hts (goodIn_sub (ws := va_wsS RX4 9 yX4_isNumber wc_X4_isNumber) (fun w h => (List.mem_cons_of_mem _ (List.mem_append_right _ (List.mem_append_left _ h)))) (by decide +kernel)) rfl rfl rfl (by decide +kernel) ⟨(Nat.le_of_ble_eq_true rfl), (Nat.le_of_ble_eq_true rfl)⟩) ⟨fun _ _ _ _ q => q, fun U hU hW => ⟨rfl, trivial⟩⟩ rfl rfl hl.1 rfl (lv_room (Nat.le_of_ble_eq_true rfl)) dX4_isType_1 ⟨(Nat.zero_le _), (Nat.zero_le _)⟩)) (fun r_1 hr_1 => ?_)
  subst hr_1
  refine lv_if_ne (tgt := 23) hx hb dX4_isType_4 (by decide) (fun c_2 => ?_) (fun c_2 => ?_)
  · refine lv_iconst (v := 1) hx hb dX4_isType_23 (by decide) ?_
    refine lv_goto (tgt := 28) hx hb dX4_isType_24 (by decide) ?_
    exact W.zret (v := 1) hx hb hr (by decide) (fun t ht hW => ⟨1, rfl, by simp only [f_X4_isType, if_neg c_2], ht⟩) (fun q h => nomatch h) dX4_isType_28
  · refine lv_iload_n hx hb dX4_isType_7 rfl (lv_at hl 0 rfl) ?_
    refine lv_bipush (v := 10) hx hb dX4_isType_8 (by decide) ?_
    refine lv_icmp_lt (tgt := 27) hx hb dX4_isType_10 (by decide) (fun c_3 => ?_) (fun c_3 => ?_)
    · refine lv_iconst (v := 0) hx hb dX4_isType_27 (by decide) ?_
      exact W.zret (v := 0) hx hb hr (by decide) (fun t ht hW => ⟨0, rfl, by simp only [f_X4_isType, if_pos c_2, if_pos c_3], ht⟩) (fun q h => nomatch h) dX4_isType_28
    · refine lv_iload_n hx hb dX4_isType_13 rfl (lv_at hl 0 rfl) ?_
      refine lv_bipush (v := 10) hx hb dX4_isType_14 (by decide) ?_
      refine lv_isub hx hb dX4_isType_16 ?_
      refine vp_callSi (va_Run.run (va_runS (As := [.int (x0 - 10)]) (rest := []) ⟨hx, hb, hml, hown, hts⟩ (c_X4_isNumber l (x0 - 10)) (va_cwS 1 hts (goodIn_sub (ws := va_wsS RX4 9 yX4_isNumber wc_X4_isNumber) (fun w h => (List.mem_cons_of_mem _ (List.mem_append_right _ (List.mem_append_left _ h)))) (by decide +kernel)) rfl rfl rfl (by decide +kernel) ⟨(Nat.le_of_ble_eq_true rfl), (Nat.le_of_ble_eq_true rfl)⟩) ⟨fun _ _ _ _ q => q, fun U hU hW => ⟨rfl, trivial⟩⟩ rfl rfl hl.1 rfl (lv_room (Nat.le_of_ble_eq_true rfl)) dX4_isType_17 ⟨(Nat.zero_le _), (Nat.zero_le _)⟩)) (fun r_4 hr_4 => ?_)
      subst hr_4
      refine lv_if_eq (tgt := 27) hx hb dX4_isType_20 (by decide) (fun c_5 => ?_) (fun c_5 => ?_)
      · refine lv_iconst (v := 0) hx hb dX4_isType_27 (by decide) ?_
        exact W.zret (v := 0) hx hb hr (by decide) (fun t ht hW => ⟨0, rfl, by simp only [f_X4_isType, if_pos c_2, if_neg c_3, if_pos c_5], ht⟩) (fun q h => nomatch h) dX4_isType_28
      · refine lv_iconst (v := 1) hx hb dX4_isType_23 (by decide) ?_
        refine lv_goto (tgt := 28) hx hb dX4_isType_24 (by decide) ?_
        exact W.zret (v := 1) hx hb hr (by decide) (fun t ht hW => ⟨1, rfl, by simp only [f_X4_isType, if_pos c_2, if_neg c_3, if_neg c_5], ht⟩) (fun q h => nomatch h) dX4_isType_28

def f_X4_convert (x0 : Int64) (x1 : Int32) : Int64 := if (x1 &&& 1) = 0 then ((x0 <<< (((64 : Int32) - ((8 : Int32) <<< ((x1 >>> ((1 : Int32) &&& 31)) &&& 31))).toInt64 &&& 63)) >>> (((64 : Int32) - ((8 : Int32) <<< ((x1 >>> ((1 : Int32) &&& 31)) &&& 31))).toInt64 &&& 63)) else (((x0 <<< (((64 : Int32) - ((8 : Int32) <<< ((x1 >>> ((1 : Int32) &&& 31)) &&& 31))).toInt64 &&& 63)).toUInt64 >>> (((64 : Int32) - ((8 : Int32) <<< ((x1 >>> ((1 : Int32) &&& 31)) &&& 31))).toInt64.toUInt64 &&& Int64.toUInt64 63)).toInt64)
def wc_X4_convert : List Cond := .code yX4_convert cX4_convert 4 (some .long) :: ([] ++ ([]))
set_option maxHeartbeats 4000000 in
set_option maxRecDepth 100000 in
theorem c_X4_convert (l : Launch) (x0 : Int64) (x1 : Int32) : Met l yX4_convert wc_X4_convert ({ frames := 0, cells := 0, slots := 0, locals := 0 }) (va_Pc [.long x0, .int x1] (fun _ => True)) (vp_Sl (fun r => r = f_X4_convert x0 x1)) 0 0 (fun _ => False) := by
  refine Met.ofW (cc := cX4_convert) (maxL := 4) (ret := (some .long)) (by decide) rfl ?_
  intro p e s m args below meth c s₁ B hml hv
  obtain ⟨rfl, -⟩ := hv
  have hx := B.exec
  have hb := B.bytes
  have hr := B.returns
  have hts := atoms_spec (ws := wc_X4_convert) B.pre
  have hown : s.vm.findClass RX4 = some m.cls := findClass_of_methodNamed B.named
  have hlocks := B.notSynchronized
  have hl := lv_entry ([.long x0, .int x1]) (n := 4) (Nat.le_of_ble_eq_true rfl)
  rw [lg_entry_eq]
  generalize (lg_sl ([.long x0, .int x1]) ++ List.replicate (4 - (lg_sl ([.long x0, .int x1])).length) Slot.unset).toArray = ls at hl ⊢
  have hl : lv_has ls 4 [(0, .long x0), (2, .int x1)] := hl
  refine lv_bipush (v := 64) hx hb dX4_convert_0 (by decide) ?_
  refine lv_bipush (v := 8) hx hb dX4_convert_2 (by decide) ?_
  refine lv_iload_n hx hb dX4_convert_4 rfl (lv_at hl 1 rfl) ?_
  refine lv_iconst (v := 1) hx hb dX4_convert_5 (by decide) ?_
  refine lv_ishr hx hb dX4_convert_6 ?_
  refine lv_ishl hx hb dX4_convert_7 ?_
  refine lv_isub hx hb dX4_convert_8 ?_
  refine lv_istore_n (lv' := [(3, .int ((64 : Int32) - ((8 : Int32) <<< ((x1 >>> ((1 : Int32) &&& 31)) &&& 31)))), (0, .long x0), (2, .int x1)]) hx hb dX4_convert_9 rfl hl (by decide) rfl (fun ls hl => ?_)
  refine lv_iload_n hx hb dX4_convert_10 rfl (lv_at hl 2 rfl) ?_
  refine lv_iconst (v := 1) hx hb dX4_convert_11 (by decide) ?_
  refine lv_iand hx hb dX4_convert_12 ?_
  refine lv_if_ne (tgt := 24) hx hb dX4_convert_13 (by decide) (fun c_1 => ?_) (fun c_1 => ?_)
  · refine lv_lload_n hx hb dX4_convert_24 rfl (lv_at hl 1 rfl) ?_
    refine lv_iload_n hx hb dX4_convert_25 rfl (lv_at hl 0 rfl) ?_
    refine lv_lshl (v := (x0 <<< (((64 : Int32) - ((8 : Int32) <<< ((x1 >>> ((1 : Int32) &&& 31)) &&& 31))).toInt64 &&& 63))) hx hb dX4_convert_26 rfl ?_
    refine lv_iload_n hx hb dX4_convert_27 rfl (lv_at hl 0 rfl) ?_
    refine lv_lushr (v := (((x0 <<< (((64 : Int32) - ((8 : Int32) <<< ((x1 >>> ((1 : Int32) &&& 31)) &&& 31))).toInt64 &&& 63)).toUInt64 >>> (((64 : Int32) - ((8 : Int32) <<< ((x1 >>> ((1 : Int32) &&& 31)) &&& 31))).toInt64.toUInt64 &&& Int64.toUInt64 63)).toInt64)) hx hb dX4_convert_28 rfl ?_
    exact W.lret (v := (((x0 <<< (((64 : Int32) - ((8 : Int32) <<< ((x1 >>> ((1 : Int32) &&& 31)) &&& 31))).toInt64 &&& 63)).toUInt64 >>> (((64 : Int32) - ((8 : Int32) <<< ((x1 >>> ((1 : Int32) &&& 31)) &&& 31))).toInt64.toUInt64 &&& Int64.toUInt64 63)).toInt64)) hx hb hr (fun t ht hW => ⟨(((x0 <<< (((64 : Int32) - ((8 : Int32) <<< ((x1 >>> ((1 : Int32) &&& 31)) &&& 31))).toInt64 &&& 63)).toUInt64 >>> (((64 : Int32) - ((8 : Int32) <<< ((x1 >>> ((1 : Int32) &&& 31)) &&& 31))).toInt64.toUInt64 &&& Int64.toUInt64 63)).toInt64), rfl, by simp only [f_X4_convert, if_neg c_1], ht⟩) (fun q h => nomatch h) dX4_convert_29
  · refine lv_lload_n hx hb dX4_convert_16 rfl (lv_at hl 1 rfl) ?_
    refine lv_iload_n hx hb dX4_convert_17 rfl (lv_at hl 0 rfl) ?_
    refine lv_lshl (v := (x0 <<< (((64 : Int32) - ((8 : Int32) <<< ((x1 >>> ((1 : Int32) &&& 31)) &&& 31))).toInt64 &&& 63))) hx hb dX4_convert_18 rfl ?_
    refine lv_iload_n hx hb dX4_convert_19 rfl (lv_at hl 0 rfl) ?_
    refine lv_lshr (v := ((x0 <<< (((64 : Int32) - ((8 : Int32) <<< ((x1 >>> ((1 : Int32) &&& 31)) &&& 31))).toInt64 &&& 63)) >>> (((64 : Int32) - ((8 : Int32) <<< ((x1 >>> ((1 : Int32) &&& 31)) &&& 31))).toInt64 &&& 63))) hx hb dX4_convert_20 rfl ?_
    refine lv_goto (tgt := 29) hx hb dX4_convert_21 (by decide) ?_
    exact W.lret (v := ((x0 <<< (((64 : Int32) - ((8 : Int32) <<< ((x1 >>> ((1 : Int32) &&& 31)) &&& 31))).toInt64 &&& 63)) >>> (((64 : Int32) - ((8 : Int32) <<< ((x1 >>> ((1 : Int32) &&& 31)) &&& 31))).toInt64 &&& 63))) hx hb hr (fun t ht hW => ⟨((x0 <<< (((64 : Int32) - ((8 : Int32) <<< ((x1 >>> ((1 : Int32) &&& 31)) &&& 31))).toInt64 &&& 63)) >>> (((64 : Int32) - ((8 : Int32) <<< ((x1 >>> ((1 : Int32) &&& 31)) &&& 31))).toInt64 &&& 63)), rfl, by simp only [f_X4_convert, if_pos c_1], ht⟩) (fun q h => nomatch h) dX4_convert_29

def f_X4_has (x0 : Int32) (x1 : Int64) : Int32 := if lg_cmp (f_X4_convert x1 x0) x1 = 0 then 1 else 0
def wc_X4_has : List Cond := .code yX4_has cX4_has 3 (some .boolean) :: ([] ++ ((va_wsS RX4 15 yX4_convert wc_X4_convert) ++ []))
set_option maxHeartbeats 4000000 in
set_option maxRecDepth 100000 in
theorem c_X4_has (l : Launch) (x0 : Int32) (x1 : Int64) : Met l yX4_has wc_X4_has ({ frames := 1, cells := 0, slots := 0, locals := 23 }) (va_Pc [.int x0, .long x1] (fun _ => True)) (vp_Si (fun r => r = f_X4_has x0 x1)) 0 0 (fun _ => False) := by
  refine Met.ofW (cc := cX4_has) (maxL := 3) (ret := (some .boolean)) (by decide) rfl ?_
  intro p e s m args below meth c s₁ B hml hv
  obtain ⟨rfl, -⟩ := hv
  have hx := B.exec
  have hb := B.bytes
  have hr := B.returns
  have hts := atoms_spec (ws := wc_X4_has) B.pre
  have hown : s.vm.findClass RX4 = some m.cls := findClass_of_methodNamed B.named
  have hlocks := B.notSynchronized
  have hl := lv_entry ([.int x0, .long x1]) (n := 3) (Nat.le_of_ble_eq_true rfl)
  rw [lg_entry_eq]
  generalize (lg_sl ([.int x0, .long x1]) ++ List.replicate (3 - (lg_sl ([.int x0, .long x1])).length) Slot.unset).toArray = ls at hl ⊢
  have hl : lv_has ls 3 [(0, .int x0), (1, .long x1)] := hl
  refine lv_lload_n hx hb dX4_has_0 rfl (lv_at hl 1 rfl) ?_
  refine lv_iload_n hx hb dX4_has_1 rfl (lv_at hl 0 rfl) ?_
  refine vp_callSl (va_Run.run (va_runS (As := [.long x1, .int x0]) (rest := []) ⟨hx, hb, hml, hown, hts⟩ (c_X4_convert l x1 x0) (va_cwS 2 hts (goodIn_sub (ws := va_wsS RX4 15 yX4_convert wc_X4_convert) (fun w h => (List.mem_cons_of_mem _ (List.mem_append_right _ (List.mem_append_left _ h)))) (by decide +kernel)) rfl rfl rfl (by decide +kernel) ⟨(Nat.le_of_ble_eq_true rfl), (Nat.le_of_ble_eq_true rfl)⟩) ⟨fun _ _ _ _ q => q, fun U hU hW => ⟨rfl, trivial⟩⟩ rfl rfl hl.1 rfl (lv_room (Nat.le_of_ble_eq_true rfl)) dX4_has_2 ⟨(Nat.zero_le _), (Nat.zero_le _)⟩)) (fun r_1 hr_1 => ?_)
  subst hr_1
  refine lv_lload_n hx hb dX4_has_5 rfl (lv_at hl 1 rfl) ?_
  refine W.lcmp hx hb dX4_has_6 ?_
  refine lv_if_ne (tgt := 14) hx hb dX4_has_7 (by decide) (fun c_2 => ?_) (fun c_2 => ?_)
  · refine lv_iconst (v := 0) hx hb dX4_has_14 (by decide) ?_
    exact W.zret (v := 0) hx hb hr (by decide) (fun t ht hW => ⟨0, rfl, by simp only [f_X4_has, if_neg c_2], ht⟩) (fun q h => nomatch h) dX4_has_15
  · refine lv_iconst (v := 1) hx hb dX4_has_10 (by decide) ?_
    refine lv_goto (tgt := 15) hx hb dX4_has_11 (by decide) ?_
    exact W.zret (v := 1) hx hb hr (by decide) (fun t ht hW => ⟨1, rfl, by simp only [f_X4_has, if_pos c_2], ht⟩) (fun q h => nomatch h) dX4_has_15

def f_X18_isIn (x0 : Int32) (x1 : Int32) (x2 : Int32) : Int32 := if x0 < x1 then 0 else if x2 < x0 then 0 else 1
def wc_X18_isIn : List Cond := .code yX18_isIn cX18_isIn 3 (some .boolean) :: ([] ++ ([]))
set_option maxHeartbeats 4000000 in
set_option maxRecDepth 100000 in
theorem c_X18_isIn (l : Launch) (x0 : Int32) (x1 : Int32) (x2 : Int32) : Met l yX18_isIn wc_X18_isIn ({ frames := 0, cells := 0, slots := 0, locals := 0 }) (va_Pc [.int x0, .int x1, .int x2] (fun _ => True)) (vp_Si (fun r => r = f_X18_isIn x0 x1 x2)) 0 0 (fun _ => False) := by
  refine Met.ofW (cc := cX18_isIn) (maxL := 3) (ret := (some .boolean)) (by decide) rfl ?_
  intro p e s m args below meth c s₁ B hml hv
  obtain ⟨rfl, -⟩ := hv
  have hx := B.exec
  have hb := B.bytes
  have hr := B.returns
  have hts := atoms_spec (ws := wc_X18_isIn) B.pre
  have hown : s.vm.findClass RX18 = some m.cls := findClass_of_methodNamed B.named
  have hlocks := B.notSynchronized
  have hl := lv_entry ([.int x0, .int x1, .int x2]) (n := 3) (Nat.le_of_ble_eq_true rfl)
  rw [lg_entry_eq]
  generalize (lg_sl ([.int x0, .int x1, .int x2]) ++ List.replicate (3 - (lg_sl ([.int x0, .int x1, .int x2])).length) Slot.unset).toArray = ls at hl ⊢
  have hl : lv_has ls 3 [(0, .int x0), (1, .int x1), (2, .int x2)] := hl
  refine lv_iload_n hx hb dX18_isIn_0 rfl (lv_at hl 0 rfl) ?_
  refine lv_iload_n hx hb dX18_isIn_1 rfl (lv_at hl 1 rfl) ?_
  refine lv_icmp_lt (tgt := 14) hx hb dX18_isIn_2 (by decide) (fun c_1 => ?_) (fun c_1 => ?_)
  · refine lv_iconst (v := 0) hx hb dX18_isIn_14 (by decide) ?_
    exact W.zret (v := 0) hx hb hr (by decide) (fun t ht hW => ⟨0, rfl, by simp only [f_X18_isIn, if_pos c_1], ht⟩) (fun q h => nomatch h) dX18_isIn_15
  · refine lv_iload_n hx hb dX18_isIn_5 rfl (lv_at hl 0 rfl) ?_
    refine lv_iload_n hx hb dX18_isIn_6 rfl (lv_at hl 2 rfl) ?_
    refine lv_icmp_gt (tgt := 14) hx hb dX18_isIn_7 (by decide) (fun c_2 => ?_) (fun c_2 => ?_)
    · refine lv_iconst (v := 0) hx hb dX18_isIn_14 (by decide) ?_
      exact W.zret (v := 0) hx hb hr (by decide) (fun t ht hW => ⟨0, rfl, by simp only [f_X18_isIn, if_neg c_1, if_pos c_2], ht⟩) (fun q h => nomatch h) dX18_isIn_15
    · refine lv_iconst (v := 1) hx hb dX18_isIn_10 (by decide) ?_
      refine lv_goto (tgt := 15) hx hb dX18_isIn_11 (by decide) ?_
      exact W.zret (v := 1) hx hb hr (by decide) (fun t ht hW => ⟨1, rfl, by simp only [f_X18_isIn, if_neg c_1, if_neg c_2], ht⟩) (fun q h => nomatch h) dX18_isIn_15
