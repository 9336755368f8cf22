theorem dX18_isOneOf_0 : decode cX18_isOneOf 0 = .ok (.iconst 0, 1) := by decide +kernel
theorem dX18_isOneOf_1 : decode cX18_isOneOf 1 = .ok (.istore_n 2, 1) := by decide +kernel
theorem dX18_isOneOf_2 : decode cX18_isOneOf 2 = .ok (.iconst 0, 1) := by decide +kernel
theorem dX18_isOneOf_3 : decode cX18_isOneOf 3 = .ok (.istore_n 3, 1) := by decide +kernel
theorem dX18_isOneOf_4 : decode cX18_isOneOf 4 = .ok (.iload_n 3, 1) := by decide +kernel
theorem dX18_isOneOf_5 : decode cX18_isOneOf 5 = .ok (.aload_n 0, 1) := by decide +kernel
theorem dX18_isOneOf_6 : decode cX18_isOneOf 6 = .ok (.invokeinterface 128 1, 5) := by decide +kernel
theorem dX18_isOneOf_11 : decode cX18_isOneOf 11 = .ok (.if_icmp .ge 28, 3) := by decide +kernel
theorem dX18_isOneOf_14 : decode cX18_isOneOf 14 = .ok (.iload_n 2, 1) := by decide +kernel
theorem dX18_isOneOf_15 : decode cX18_isOneOf 15 = .ok (.aload_n 0, 1) := by decide +kernel
theorem dX18_isOneOf_16 : decode cX18_isOneOf 16 = .ok (.iload_n 3, 1) := by decide +kernel
theorem dX18_isOneOf_17 : decode cX18_isOneOf 17 = .ok (.invokeinterface 133 2, 5) := by decide +kernel
theorem dX18_unary_0 : decode cX18_unary 0 = .ok (.aload_n 0, 1) := by decide +kernel
theorem dX18_unary_1 : decode cX18_unary 1 = .ok (.ldc 137, 2) := by decide +kernel
theorem dX18_unary_3 : decode cX18_unary 3 = .ok (.iload_n 1, 1) := by decide +kernel
theorem dX18_unary_4 : decode cX18_unary 4 = .ok (.invokestatic 139, 3) := by decide +kernel
theorem dX11_unary_0 : decode cX11_unary 0 = .ok (.ldc 176, 2) := by decide +kernel
theorem dX11_unary_2 : decode cX11_unary 2 = .ok (.iload_n 1, 1) := by decide +kernel
theorem dX11_unary_3 : decode cX11_unary 3 = .ok (.invokevirtual 178, 3) := by decide +kernel
theorem dX11_unary_6 : decode cX11_unary 6 = .ok (.ifCond .ge 13, 3) := by decide +kernel
theorem dX11_unary_9 : decode cX11_unary 9 = .ok (.new 50, 3) := by decide +kernel
theorem dX11_unary_12 : decode cX11_unary 12 = .ok (.dup, 1) := by decide +kernel
theorem dX11_unary_13 : decode cX11_unary 13 = .ok (.ldc 184, 2) := by decide +kernel
theorem dX11_unary_15 : decode cX11_unary 15 = .ok (.invokespecial 54, 3) := by decide +kernel
theorem dX11_unary_18 : decode cX11_unary 18 = .ok (.athrow, 1) := by decide +kernel
/-! A START WITH ANOTHER String.charAt: the words of the claim say nothing of it. Here its code throws an IllegalStateException. -/
def od_y : MethodName := ⟨"java/lang/String", "charAt", "(I)C"⟩
/-- new 1157; dup; ldc_w 1163; invokespecial 1159; athrow -/
def od_c : ByteArray := ⟨#[0xbb, 0x04, 0x85, 0x59, 0x13, 0x04, 0x8b, 0xb7, 0x04, 0x87, 0xbf]⟩
theorem od_d0 : decode od_c 0 = .ok (.new 1157, 3) := by decide +kernel
theorem od_d3 : decode od_c 3 = .ok (.dup, 1) := by decide +kernel
theorem od_d4 : decode od_c 4 = .ok (.ldc_w 1163, 3) := by decide +kernel
theorem od_d7 : decode od_c 7 = .ok (.invokespecial 1159, 3) := by decide +kernel
theorem od_d10 : decode od_c 10 = .ok (.athrow, 1) := by decide +kernel
def od_len : MethodName := ⟨"java/lang/CharSequence", "length", "()I"⟩
def od_chr : MethodName := ⟨"java/lang/CharSequence", "charAt", "(I)C"⟩
def od (U : State) : Prop := (∃ cC : ClassId, ClassAt U "java/lang/String" cC) ∧ va_Fw "java/lang/String" od_len yJ0_length_8abf5 U ∧ va_Fw "java/lang/String" od_chr od_y U ∧ ∃ sa : Nat, vk_R RJ0 1163 "no such node" sa U
theorem od_at {u U : State} {C : String} {cC : ClassId} (hvm : u.vm.Alike U.vm) (h : ClassAt u C cC) : ClassAt U C cC := (u_Kn_moved (T := fun _ => ("", "", "", false)) (N := 0) (iS := fun _ => 0) hvm ⟨fun k hk => absurd hk (Nat.not_lt_zero k), h⟩).2
theorem od.warm {s U : State} (hW : s.WarmedH U.vm) (h : od s) : od U := by
  obtain ⟨⟨cC, h1⟩, h2, h3, sa, h4⟩ := h
  exact ⟨⟨cC, od_at hW.alike h1⟩, va_Fw.moved ⟨by decide +kernel, by decide +kernel⟩ hW.alike h2, va_Fw.moved ⟨by decide +kernel, by decide +kernel⟩ hW.alike h3, sa, vk_R.warm hW h4⟩
theorem od.blind {U : State} (a : Array Value) (g : JFrame) (mk : MethodId) (h : od U) : od (U.calling g mk a) := by
  obtain ⟨⟨cC, h1⟩, h2, h3, sa, h4⟩ := h
  exact ⟨⟨cC, od_at (u := U) (Vm.Alike.refl U.vm) h1⟩, va_Fw.moved (u := U) ⟨by decide +kernel, by decide +kernel⟩ (Vm.Alike.refl U.vm) h2, va_Fw.moved (u := U) ⟨by decide +kernel, by decide +kernel⟩ (Vm.Alike.refl U.vm) h3, sa, vk_R.same (u := U) rfl h4⟩
theorem od_b : ∀ w ∈ (vx_atS RJ0 1159 "java/lang/IllegalStateException" xw_N).filter (fun w => !goodWord w), w ∈ xw_B "java/lang/IllegalStateException" := by decide +kernel
theorem od_g : ∀ w ∈ Cond.classLink RJ0 1157 "java/lang/IllegalStateException" :: Cond.initialized "java/lang/IllegalStateException" :: vx_atS RJ0 1159 "java/lang/IllegalStateException" xw_N, vx_ot w = true := by decide +kernel
def wod : List Cond := .code od_y od_c 2 (some .char) :: ([.classLink RJ0 1157 "java/lang/IllegalStateException", .initialized "java/lang/IllegalStateException"] ++ (vx_atS RJ0 1159 "java/lang/IllegalStateException" xw_N).filter goodWord)
set_option maxHeartbeats 4000000 in
set_option maxRecDepth 100000 in
theorem od_met (l : Launch) (hlt : l.stackTraces = false) (a : Nat) (i : Int32) (sz : Nat) : vx_Met l od_y wod ({ frames := 6, cells := 1, slots := 6, locals := 100 }) (va_Pc [.ref a, .int i] (fun U => U.heap.size = sz ∧ xw (va_A [] sz) U U.heap ∧ od U)) (va_Qi (fun (_ : Int32) (_ : Unit) => False) (fun _ _ => True) (va_A [] sz)) (vx_X (fun _ : Unit => True) (fun E _ _ => E = "java/lang/IllegalStateException") (va_A [] sz)) 1 6 (va_A [] sz) := by
  refine vx_ofW (cc := od_c) (maxL := 2) (ret := some .char) (by decide +kernel) rfl ?_
  intro p e s m args below meth c s₁ B hml hno hv
  obtain ⟨rfl, hsz, hX, hH⟩ := hv
  have hx := B.exec
  have hb := B.bytes
  have hts := atoms_spec (ws := wod) B.pre
  have hown : s.vm.findClass RJ0 = some m.cls := findClass_of_methodNamed B.named
  have hlocks := B.notSynchronized
  subst hsz
  generalize hAe : va_A [] s.heap.size = A at hX ⊢
  have hS : va_S A s.heap s.heap [] := va_S.rf
  have hl := lv_entry ([.ref a, .int i]) (n := 2) (Nat.le_of_ble_eq_true rfl)
  rw [lg_entry_eq]
  generalize (lg_sl ([.ref a, .int i]) ++ List.replicate (2 - (lg_sl ([.ref a, .int i])).length) Slot.unset).toArray = ls at hl ⊢
  obtain ⟨-, -, -, sa, hsa⟩ := hH
  exact vx_throwSW (names := xw_N) (A := A) (sa := sa) hx hb hlt hown (by decide +kernel) (by decide +kernel) (hts (.classLink RJ0 1157 "java/lang/IllegalStateException") (by decide +kernel)) (hts (.initialized "java/lang/IllegalStateException") (by decide +kernel)) hsa (vx_hat (fun w h => hts w (List.mem_cons_of_mem _ (List.mem_append_right _ h))) od_b (hX.bad (by decide +kernel))) od_g hX.1.1 hX.1.2 hS (by rw [hml]; exact hl.1) od_d0 od_d3 od_d4 od_d7 od_d10 (fun x h => (hno x h).elim) (Nat.le_of_ble_eq_true rfl) (Nat.le_of_ble_eq_true rfl) (Nat.le_of_ble_eq_true rfl) (Nat.le_of_ble_eq_true rfl) hlocks (fun t h1 h2 h3 => ⟨(), trivial, rfl, xw_F hS h2 h3⟩) hS.2.2 (Nat.le_of_ble_eq_true rfl) (Nat.le_of_ble_eq_true rfl)
def wo_X18_isOneOf : List Cond := .code yX18_isOneOf cX18_isOneOf 4 (some .boolean) :: ([] ++ ((va_wsF RX18 128 "java/lang/String" od_len yJ0_length_8abf5 ws_J0_length_8abf5) ++ ((va_wsF RX18 133 "java/lang/String" od_chr od_y wod) ++ [])))
set_option maxHeartbeats 4000000 in
set_option maxRecDepth 100000 in
theorem o_X18_isOneOf (l : Launch) (hlt : l.stackTraces = false) (dC : Nat → ClassId) (dI : Nat → Nat → Nat) (a : Nat) (v : Nat) (k : Int32) (sz : Nat) : vx_Met l yX18_isOneOf wo_X18_isOneOf ({ frames := 7, cells := 1, slots := 6, locals := 130 }) (va_Pc [.ref a, .int k] (fun U => U.heap.size = sz ∧ va_P (dC, dI) vwCl [] U.heap ∧ va_K (dC, dI) vwCl [] U ∧ va_D (fun _ => True) [] ∧ xw (va_A [] sz) U U.heap ∧ sB (va_A [] sz) U U.heap a v ∧ od U)) (va_Qi (fun (r : Int32) (_ : Unit) => "java/lang/IllegalStateException" = "" ∧ True) (fun _ t => True) (va_A [] sz)) (vx_X (fun _ : Unit => True) (fun E _ _ => E = "java/lang/IllegalStateException") (va_A [] sz)) 1 6 (va_A [] sz) := by
  refine vx_ofW (cc := cX18_isOneOf) (maxL := 4) (ret := (some .boolean)) (by decide +kernel) rfl ?_
  intro p e s m args below meth c s₁ B hml hno hv
  obtain ⟨rfl, hsz, hP, hK, hD0, hX, hH⟩ := hv
  have hx := B.exec
  have hb := B.bytes
  have hr := B.returns
  have hts := atoms_spec (ws := wo_X18_isOneOf) B.pre
  have hown : s.vm.findClass RX18 = some m.cls := findClass_of_methodNamed B.named
  have hlocks := B.notSynchronized
  subst hsz
  have hD := hD0.self (sz := s.heap.size)
  generalize hAe : va_A [] s.heap.size = A at hD hX hH ⊢
  have hA : ∀ q : Nat, s.heap.size ≤ q → A q := fun q h => by rw [← hAe]; exact Or.inr h
  have hS : va_S A s.heap s.heap [] := va_S.rf
  have hP : va_P (dC, dI) vwCl [] s.heap := hP
  have hl := lv_entry ([.ref a, .int k]) (n := 4) (Nat.le_of_ble_eq_true rfl)
  rw [lg_entry_eq]
  generalize (lg_sl ([.ref a, .int k]) ++ List.replicate (4 - (lg_sl ([.ref a, .int k])).length) Slot.unset).toArray = ls at hl ⊢
  have hl : lv_has ls 4 [(0, .ref a), (1, .int k)] := hl
  obtain ⟨hH, hO⟩ := hH
  refine lv_iconst (v := 0) hx hb dX18_isOneOf_0 (by decide) ?_
  refine lv_istore_n (lv' := [(2, .int 0), (0, .ref a), (1, .int k)]) hx hb dX18_isOneOf_1 rfl hl (by decide) rfl (fun ls hl => ?_)
  refine lv_iconst (v := 0) hx hb dX18_isOneOf_2 (by decide) ?_
  refine lv_istore_n (lv' := [(3, .int 0), (2, .int 0), (0, .ref a), (1, .int k)]) hx hb dX18_isOneOf_3 rfl hl (by decide) rfl (fun ls hl => ?_)
  refine lv_iload_n hx hb dX18_isOneOf_4 rfl (lv_at hl 0 rfl) ?_
  refine lv_aload_n hx hb dX18_isOneOf_5 rfl (lv_at hl 2 rfl) ?_
  obtain ⟨⟨cC, hat⟩, hf1, hf2, hf3⟩ := id hO
  refine va_csFi (va_runF (As := []) (rest := [.int 0]) hat ⟨hx, hb, hml, hown, hts⟩ (s_J0_length_8abf5 l dC dI a v) (va_cwF 0 hts (goodIn_sub (ws := va_wsF RX18 128 "java/lang/String" od_len yJ0_length_8abf5 ws_J0_length_8abf5) (fun w h => (List.mem_cons_of_mem _ (List.mem_append_right _ (List.mem_append_left _ h)))) (by decide +kernel)) rfl rfl rfl hf1 ⟨by decide +kernel, by decide +kernel, by decide +kernel⟩ ⟨Nat.le_of_ble_eq_true rfl, Nat.le_of_ble_eq_true rfl⟩) ⟨fun a9 U g mk q => by obtain ⟨q0, qP, qK, qH⟩ := q; exact ⟨q0, qP, va_K.moved (u := U) (U := U.calling g mk a9) (Vm.Alike.refl U.vm) qK, qH.blind a9 g mk⟩, hH.recv hS, fun U hU hW => ⟨rfl, fun k q h => by simp at h, va_K.moved hW.alike (hK.sub (tys' := []) [] rfl), hH.call hS (fun q h => h.elim) hW hU⟩⟩ rfl rfl hl.1 rfl (lv_room (Nat.le_of_ble_eq_true rfl)) dX18_isOneOf_6 ⟨(Nat.le_of_ble_eq_true rfl), (Nat.le_of_ble_eq_true rfl)⟩) (fun r_1 hr_1 => ?_)
  subst hr_1
  refine lv_icmp_ge (tgt := 39) hx hb dX18_isOneOf_11 (by decide) (fun c_2 => absurd c_2 (by decide)) (fun c_2 => ?_)
  refine lv_iload_n hx hb dX18_isOneOf_14 rfl (lv_at hl 1 rfl) ?_
  refine lv_aload_n hx hb dX18_isOneOf_15 rfl (lv_at hl 2 rfl) ?_
  refine lv_iload_n hx hb dX18_isOneOf_16 rfl (lv_at hl 0 rfl) ?_
  have hFc : ∀ q, va_A [] s.heap.size q → A q := fun q h => h.elim (fun ⟨k, e, h⟩ => by simp at h) (hA q)
  refine vx_callFi (vx_runF (As := [.int 0]) (rest := [.int 0]) hat ⟨hx, hb, hml, hown, hts⟩ (od_met l hlt a 0 _) (va_cwF 1 hts (goodIn_sub (ws := va_wsF RX18 133 "java/lang/String" od_chr od_y wod) (fun w h => (List.mem_cons_of_mem _ (List.mem_append_right _ (List.mem_append_right _ (List.mem_append_left _ h))))) (by decide +kernel)) rfl rfl rfl hf2 ⟨by decide +kernel, by decide +kernel, by decide +kernel⟩ ⟨Nat.le_of_ble_eq_true rfl, Nat.le_of_ble_eq_true rfl⟩) ⟨fun a9 U g mk q => by obtain ⟨q0, q1, qX, qO⟩ := q; exact ⟨q0, q1, qX.blind a9 g mk, qO.blind a9 g mk⟩, hH.recv hS, fun U hU hW => ⟨rfl, by rw [hU], hX.call hS hFc hW hU, hO.warm hW⟩⟩ rfl rfl hl.1 rfl (lv_room (Nat.le_of_ble_eq_true rfl)) dX18_isOneOf_17 ⟨(Nat.le_of_ble_eq_true rfl), (Nat.le_of_ble_eq_true rfl)⟩) hS (fun q _ h => hFc q h) hFc (fun q _ h => hFc q h) (fun E ce q9 u t H1 locs ht hvm hw hB hz1 hk1 hS hq9 hcv hcl => ?_) (fun r u t H1 locs ht hvm hw hB hz1 hk1 hS => hw.elim)
  exact vx_out (fun x h => (hno x h).elim) hlocks hq9 hcv hcl (fun t ht hA => ⟨(), trivial, hB, hS.F ht⟩) hS.2.2 (Nat.le_of_ble_eq_true rfl) (Nat.le_of_ble_eq_true rfl)

def wo_X18_unary : List Cond := .code yX18_unary cX18_unary 6 (some .int) :: ([] ++ ((va_wsS RX18 139 yX18_isOneOf wo_X18_isOneOf) ++ []))
set_option maxHeartbeats 4000000 in
set_option maxRecDepth 100000 in
theorem o_X18_unary (l : Launch) (hlt : l.stackTraces = false) (dC : Nat → ClassId) (dI : Nat → Nat → Nat) (h : Nat) (k : Int32) (j : Int32) (sz : Nat) : vx_Met l yX18_unary wo_X18_unary ({ frames := 8, cells := 1, slots := 6, locals := 160 }) (va_Pc [.ref h, .int k, .int j] (fun U => U.heap.size = sz ∧ va_P (dC, dI) vwCl [] U.heap ∧ va_K (dC, dI) vwCl [] U ∧ va_D (fun _ => True) [] ∧ xw (va_A [] sz) U U.heap ∧ sW RX18 137 (va_A [] sz) U U.heap ∧ od U)) (va_Qi (fun (r : Int32) (_ : Unit) => "java/lang/IllegalStateException" = "" ∧ True) (fun _ t => True) (va_A [] sz)) (vx_X (fun _ : Unit => True) (fun E _ _ => E = "java/lang/IllegalStateException") (va_A [] sz)) 1 6 (va_A [] sz) := by
  refine vx_ofW (cc := cX18_unary) (maxL := 6) (ret := (some .int)) (by decide +kernel) rfl ?_
  intro p e s m args below meth c s₁ B hml hno hv
  obtain ⟨rfl, hsz, hP, hK, hD0, hX, hH⟩ := hv
  have hx := B.exec
  have hb := B.bytes
  have hr := B.returns
  have hts := atoms_spec (ws := wo_X18_unary) B.pre
  have hown : s.vm.findClass RX18 = some m.cls := findClass_of_methodNamed B.named
  have hlocks := B.notSynchronized
  subst hsz
  have hD := hD0.self (sz := s.heap.size)
  generalize hAe : va_A [] s.heap.size = A at hD hX hH ⊢
  have hA : ∀ q : Nat, s.heap.size ≤ q → A q := fun q h => by rw [← hAe]; exact Or.inr h
  have hS : va_S A s.heap s.heap [] := va_S.rf
  have hP : va_P (dC, dI) vwCl [] s.heap := hP
  have hl := lv_entry ([.ref h, .int k, .int j]) (n := 6) (Nat.le_of_ble_eq_true rfl)
  rw [lg_entry_eq]
  generalize (lg_sl ([.ref h, .int k, .int j]) ++ List.replicate (6 - (lg_sl ([.ref h, .int k, .int j])).length) Slot.unset).toArray = ls at hl ⊢
  have hl : lv_has ls 6 [(0, .ref h), (1, .int k), (2, .int j)] := hl
  obtain ⟨hH, hO⟩ := hH
  refine lv_aload_n hx hb dX18_unary_0 rfl (lv_at hl 0 rfl) ?_
  obtain ⟨sa, sv, hsR, hsB⟩ := hH
  refine va_ldcS hx hb hown hsR dX18_unary_1 ?_
  refine lv_iload_n hx hb dX18_unary_3 rfl (lv_at hl 1 rfl) ?_
  have hPc := hP.sub (ws' := []) [] rfl
  have hKc := hK.sub (tys' := []) [] rfl
  have hDc := hD.sub (ws' := []) [] (by decide) rfl
  have hFc := va_free (wc := []) hD hS hA [] rfl
  refine vx_calli (vx_runS (As := [.ref sa, .int k]) (rest := [.ref h]) ⟨hx, hb, hml, hown, hts⟩ (o_X18_isOneOf l hlt dC dI sa sv k _) (va_cwS 2 hts (goodIn_sub (ws := va_wsS RX18 139 yX18_isOneOf wo_X18_isOneOf) (fun w h => (List.mem_cons_of_mem _ (List.mem_append_right _ (List.mem_append_left _ h)))) (by decide +kernel)) rfl rfl rfl (by decide +kernel) ⟨Nat.le_of_ble_eq_true rfl, Nat.le_of_ble_eq_true rfl⟩) ⟨fun a U g mk q => by obtain ⟨q0, q1, qP, qK, qD, qX, qH⟩ := q; exact ⟨q0, q1, qP, va_K.moved (u := U) (U := U.calling g mk a) (Vm.Alike.refl U.vm) qK, qD, xw.blind a g mk qX, ⟨qH.1.blind a g mk, qH.2.blind a g mk⟩⟩, fun U hU hW => ⟨rfl, by rw [hU], by rw [hU]; exact hPc, va_K.moved hW.alike hKc, hDc.weaken (fun _ _ _ _ => trivial), xw.call hX hS hFc hW hU, ⟨hsB.call hS hFc hW hU, hO.warm hW⟩⟩⟩ rfl rfl hl.1 rfl (lv_room (Nat.le_of_ble_eq_true rfl)) dX18_unary_4 ⟨(Nat.le_of_ble_eq_true rfl), (Nat.le_of_ble_eq_true rfl)⟩) hS (fun q _ h => hFc q h) hFc (fun q _ h => hFc q h) (fun E ce q9 u t H1 locs ht hvm hw hB hz1 hk1 hS hq9 hcv hcl => ?_) (fun r_1 u t H1 locs ht hvm hw hB hz1 hk1 hS => ?_)
  · have hK1 : va_K (dC, dI) vwCl _ s := hK
    exact vx_out (fun x h => (hno x h).elim) hlocks hq9 hcv hcl (fun t ht hA => ⟨(), trivial, hB, hS.F ht⟩) hS.2.2 (Nat.le_of_ble_eq_true rfl) (Nat.le_of_ble_eq_true rfl)
  · exact absurd hw.1 (by decide)

def wo_X11_unary : List Cond := .code yX11_unary cX11_unary 5 (some .int) :: ([.classLink RX11 50 "java/lang/IllegalArgumentException", .initialized "java/lang/IllegalArgumentException"] ++ ((wsV RX11 178 RJ0 yJ0_indexOf_0f7a4 ws_J0_indexOf_0f7a4) ++ (((vx_atS RX11 54 "java/lang/IllegalArgumentException" xw_N).filter goodWord) ++ [])))
set_option maxHeartbeats 4000000 in
set_option maxRecDepth 100000 in
theorem o_X11_unary (l : Launch) (hlt : l.stackTraces = false) (dC : Nat → ClassId) (dI : Nat → Nat → Nat) (x : Nat) (j : Int32) (sz : Nat) : vx_Met l yX11_unary wo_X11_unary ({ frames := 6, cells := 1, slots := 6, locals := 130 }) (va_Pc [.ref x, .int 0, .int j] (fun U => U.heap.size = sz ∧ va_P (dC, dI) vwCl [] U.heap ∧ va_K (dC, dI) vwCl [] U ∧ va_D (fun _ => True) [] ∧ xw (va_A [] sz) U U.heap ∧ sW RX11 176 (va_A [] sz) U U.heap)) (va_Qi (fun (r : Int32) (_ : Unit) => "java/lang/IllegalArgumentException" = "" ∧ True) (fun _ t => True) (va_A [] sz)) (vx_X (fun _ : Unit => True) (fun E _ _ => E = "java/lang/IllegalArgumentException") (va_A [] sz)) 1 6 (va_A [] sz) := by
  refine vx_ofW (cc := cX11_unary) (maxL := 5) (ret := (some .int)) (by decide +kernel) rfl ?_
  intro p e s m args below meth c s₁ B hml hno hv
  obtain ⟨rfl, hsz, hP, hK, hD0, hX, hH⟩ := hv
  have hx := B.exec
  have hb := B.bytes
  have hr := B.returns
  have hts := atoms_spec (ws := wo_X11_unary) B.pre
  have hown : s.vm.findClass RX11 = some m.cls := findClass_of_methodNamed B.named
  have hlocks := B.notSynchronized
  subst hsz
  have hD := hD0.self (sz := s.heap.size)
  generalize hAe : va_A [] s.heap.size = A at hD hX hH ⊢
  have hA : ∀ q : Nat, s.heap.size ≤ q → A q := fun q h => by rw [← hAe]; exact Or.inr h
  have hS : va_S A s.heap s.heap [] := va_S.rf
  have hP : va_P (dC, dI) vwCl [] s.heap := hP
  have hl := lv_entry ([.ref x, .int 0, .int j]) (n := 5) (Nat.le_of_ble_eq_true rfl)
  rw [lg_entry_eq]
  generalize (lg_sl ([.ref x, .int 0, .int j]) ++ List.replicate (5 - (lg_sl ([.ref x, .int 0, .int j])).length) Slot.unset).toArray = ls at hl ⊢
  have hl : lv_has ls 5 [(0, .ref x), (1, .int 0), (2, .int j)] := hl
  obtain ⟨sa, sv, hsR, hsB⟩ := hH
  refine va_ldcS hx hb hown hsR dX11_unary_0 ?_
  refine lv_iload_n hx hb dX11_unary_2 rfl (lv_at hl 1 rfl) ?_
  have hPc := hP.sub (ws' := []) [] rfl
  have hKc := hK.sub (tys' := []) [] rfl
  refine vp_callSi (va_Run.run (va_runV (As := [.int 0]) (rest := []) ⟨hx, hb, hml, hown, hts⟩ (s_J0_indexOf_0f7a4 l dC dI sa sv) (cwV 1 hts (goodIn_sub (ws := wsV RX11 178 RJ0 yJ0_indexOf_0f7a4 ws_J0_indexOf_0f7a4) (fun w h => (List.mem_cons_of_mem _ (List.mem_append_right _ (List.mem_append_left _ h)))) (by decide +kernel)) rfl rfl rfl (by decide +kernel) ⟨Nat.le_of_ble_eq_true rfl, Nat.le_of_ble_eq_true rfl⟩) ⟨fun a U g mk q => by obtain ⟨q0, qP, qK, qH⟩ := q; exact ⟨q0, qP, va_K.moved (u := U) (U := U.calling g mk a) (Vm.Alike.refl U.vm) qK, qH.blind a g mk⟩, sB.recv hsB hS, fun U hU hW => ⟨rfl, by rw [hU]; exact hPc, va_K.moved hW.alike hKc, hsB.call hS (fun q h => h.elim) hW hU⟩⟩ rfl rfl hl.1 rfl (lv_room (Nat.le_of_ble_eq_true rfl)) dX11_unary_3 ⟨(Nat.le_of_ble_eq_true rfl), (Nat.le_of_ble_eq_true rfl)⟩)) (fun r_1 hr_1 => ?_)
  subst hr_1
  refine lv_if_ge (tgt := 19) hx hb dX11_unary_6 (by decide) (fun c_2 => absurd c_2 (by decide)) (fun c_2 => ?_)
  exact xw_throw (E := "java/lang/IllegalArgumentException") (text := "no such kind") (ik := 50) (is := 184) (ic := 54) hx hb hlt hown (by decide +kernel) (by decide +kernel) (hts (.classLink RX11 50 "java/lang/IllegalArgumentException") (by decide +kernel)) (hts (.initialized "java/lang/IllegalArgumentException") (by decide +kernel)) (by decide +kernel) (fun w h => hts w (List.mem_cons_of_mem _ (List.mem_append_right _ (List.mem_append_right _ (List.mem_append_left _ h))))) xw_bIAE xw_gIAE hX hS (by rw [hml]; exact hl.1) dX11_unary_9 dX11_unary_12 dX11_unary_13 dX11_unary_15 dX11_unary_18 hno (Nat.le_of_ble_eq_true rfl) (Nat.le_of_ble_eq_true rfl) (Nat.le_of_ble_eq_true rfl) (Nat.le_of_ble_eq_true rfl) hlocks (fun t h1 h2 => ⟨(), trivial, rfl, h2⟩) hS.2.2 (Nat.le_of_ble_eq_true rfl) (Nat.le_of_ble_eq_true rfl)
