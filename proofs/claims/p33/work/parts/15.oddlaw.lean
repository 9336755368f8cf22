theorem dL_unary_0 : decode cL_unary 0 = .ok (.aload_n 3, 1) := by decide +kernel
theorem dL_unary_1 : decode cL_unary 1 = .ok (.iconst 0, 1) := by decide +kernel
theorem dL_unary_2 : decode cL_unary 2 = .ok (.aload_n 0, 1) := by decide +kernel
theorem dL_unary_3 : decode cL_unary 3 = .ok (.iload_n 1, 1) := by decide +kernel
theorem dL_unary_4 : decode cL_unary 4 = .ok (.iload_n 2, 1) := by decide +kernel
theorem dL_unary_5 : decode cL_unary 5 = .ok (.invokevirtual 36, 3) := by decide +kernel
theorem dL_unary_8 : decode cL_unary 8 = .ok (.i2l, 1) := by decide +kernel
theorem dL_unary_9 : decode cL_unary 9 = .ok (.lastore, 1) := by decide +kernel
theorem dL_unary_10 : decode cL_unary 10 = .ok (.goto 19, 3) := by decide +kernel
theorem dL_unary_13 : decode cL_unary 13 = .ok (.astore 4, 2) := by decide +kernel
theorem dL_unary_15 : decode cL_unary 15 = .ok (.iconst 1, 1) := by decide +kernel
theorem dL_unary_16 : decode cL_unary 16 = .ok (.ireturn, 1) := by decide +kernel
theorem dL_unary_17 : decode cL_unary 17 = .ok (.astore 4, 2) := by decide +kernel
theorem dL_unary_19 : decode cL_unary 19 = .ok (.iconst 2, 1) := by decide +kernel
theorem dL_unary_20 : decode cL_unary 20 = .ok (.ireturn, 1) := by decide +kernel
theorem dL_unary_21 : decode cL_unary 21 = .ok (.astore 4, 2) := by decide +kernel
theorem dL_unary_23 : decode cL_unary 23 = .ok (.iconst 3, 1) := by decide +kernel
theorem dL_unary_24 : decode cL_unary 24 = .ok (.ireturn, 1) := by decide +kernel
theorem dL_unary_25 : decode cL_unary 25 = .ok (.astore 4, 2) := by decide +kernel
theorem dL_unary_27 : decode cL_unary 27 = .ok (.iconst 4, 1) := by decide +kernel
theorem dL_unary_28 : decode cL_unary 28 = .ok (.ireturn, 1) := by decide +kernel
theorem dL_unary_29 : decode cL_unary 29 = .ok (.iconst 0, 1) := by decide +kernel
theorem dL_unary_30 : decode cL_unary 30 = .ok (.ireturn, 1) := by decide +kernel
section
theorem dL_law_0 : decode cL_law 0 = .ok (.new 8, 3) := by decide +kernel
theorem dL_law_3 : decode cL_law 3 = .ok (.dup, 1) := by decide +kernel
theorem dL_law_4 : decode cL_law 4 = .ok (.invokespecial 117, 3) := by decide +kernel
theorem dL_law_7 : decode cL_law 7 = .ok (.astore_n 1, 1) := by decide +kernel
theorem dL_law_8 : decode cL_law 8 = .ok (.new 118, 3) := by decide +kernel
theorem dL_law_11 : decode cL_law 11 = .ok (.dup, 1) := by decide +kernel
theorem dL_law_12 : decode cL_law 12 = .ok (.invokespecial 120, 3) := by decide +kernel
theorem dL_law_15 : decode cL_law 15 = .ok (.astore_n 2, 1) := by decide +kernel
theorem dL_law_16 : decode cL_law 16 = .ok (.iconst 1, 1) := by decide +kernel
theorem dL_law_17 : decode cL_law 17 = .ok (.newarray .long, 2) := by decide +kernel
theorem dL_law_19 : decode cL_law 19 = .ok (.astore_n 3, 1) := by decide +kernel
theorem dL_law_20 : decode cL_law 20 = .ok (.iconst 1, 1) := by decide +kernel
theorem dL_law_21 : decode cL_law 21 = .ok (.newarray .double, 2) := by decide +kernel
theorem dL_law_23 : decode cL_law 23 = .ok (.astore 4, 2) := by decide +kernel
theorem dL_law_25 : decode cL_law 25 = .ok (.iconst 0, 1) := by decide +kernel
theorem dL_law_26 : decode cL_law 26 = .ok (.istore 5, 2) := by decide +kernel
theorem dL_law_28 : decode cL_law 28 = .ok (.iload 5, 2) := by decide +kernel
theorem dL_law_30 : decode cL_law 30 = .ok (.aload_n 0, 1) := by decide +kernel
theorem dL_law_31 : decode cL_law 31 = .ok (.arraylength, 1) := by decide +kernel
theorem dL_law_32 : decode cL_law 32 = .ok (.iconst 4, 1) := by decide +kernel
theorem dL_law_33 : decode cL_law 33 = .ok (.isub, 1) := by decide +kernel
theorem dL_law_34 : decode cL_law 34 = .ok (.if_icmp .gt 1258, 3) := by decide +kernel
theorem dL_law_37 : decode cL_law 37 = .ok (.aload_n 0, 1) := by decide +kernel
theorem dL_law_38 : decode cL_law 38 = .ok (.iload 5, 2) := by decide +kernel
theorem dL_law_40 : decode cL_law 40 = .ok (.iaload, 1) := by decide +kernel
theorem dL_law_41 : decode cL_law 41 = .ok (.bipush 63, 2) := by decide +kernel
theorem dL_law_43 : decode cL_law 43 = .ok (.iand, 1) := by decide +kernel
theorem dL_law_44 : decode cL_law 44 = .ok (.tableswitch 1242 0 32 #[148, 216, 268, 308, 348, 376, 418, 458, 512, 564, 618, 670, 698, 740, 768, 820, 860, 900, 928, 956, 984, 1000, 1016, 1029, 1042, 1055, 1083, 1099, 1115, 1131, 1147, 1163, 1229], 148) := by decide +kernel
theorem dL_law_420 : decode cL_law 420 = .ok (.aload_n 1, 1) := by decide +kernel
theorem dL_law_421 : decode cL_law 421 = .ok (.aload_n 0, 1) := by decide +kernel
theorem dL_law_422 : decode cL_law 422 = .ok (.iload 5, 2) := by decide +kernel
theorem dL_law_424 : decode cL_law 424 = .ok (.iconst 1, 1) := by decide +kernel
theorem dL_law_425 : decode cL_law 425 = .ok (.iadd, 1) := by decide +kernel
theorem dL_law_426 : decode cL_law 426 = .ok (.iaload, 1) := by decide +kernel
theorem dL_law_427 : decode cL_law 427 = .ok (.i2c, 1) := by decide +kernel
theorem dL_law_428 : decode cL_law 428 = .ok (.aload_n 0, 1) := by decide +kernel
theorem dL_law_429 : decode cL_law 429 = .ok (.iload 5, 2) := by decide +kernel
theorem dL_law_431 : decode cL_law 431 = .ok (.iconst 2, 1) := by decide +kernel
theorem dL_law_432 : decode cL_law 432 = .ok (.iadd, 1) := by decide +kernel
theorem dL_law_433 : decode cL_law 433 = .ok (.iaload, 1) := by decide +kernel
theorem dL_law_434 : decode cL_law 434 = .ok (.aload_n 3, 1) := by decide +kernel
theorem dL_law_435 : decode cL_law 435 = .ok (.invokestatic 142, 3) := by decide +kernel
theorem dL_law_438 : decode cL_law 438 = .ok (.istore 6, 2) := by decide +kernel
theorem dL_law_440 : decode cL_law 440 = .ok (.aload_n 2, 1) := by decide +kernel
theorem dL_law_441 : decode cL_law 441 = .ok (.aload_n 0, 1) := by decide +kernel
theorem dL_law_442 : decode cL_law 442 = .ok (.iload 5, 2) := by decide +kernel
theorem dL_law_444 : decode cL_law 444 = .ok (.iconst 1, 1) := by decide +kernel
theorem dL_law_445 : decode cL_law 445 = .ok (.iadd, 1) := by decide +kernel
theorem dL_law_446 : decode cL_law 446 = .ok (.iaload, 1) := by decide +kernel
theorem dL_law_447 : decode cL_law 447 = .ok (.i2c, 1) := by decide +kernel
theorem dL_law_448 : decode cL_law 448 = .ok (.aload_n 0, 1) := by decide +kernel
theorem dL_law_449 : decode cL_law 449 = .ok (.iload 5, 2) := by decide +kernel
theorem dL_law_451 : decode cL_law 451 = .ok (.iconst 2, 1) := by decide +kernel
theorem dL_law_452 : decode cL_law 452 = .ok (.iadd, 1) := by decide +kernel
theorem dL_law_453 : decode cL_law 453 = .ok (.iaload, 1) := by decide +kernel
theorem dL_law_454 : decode cL_law 454 = .ok (.invokevirtual 145, 3) := by decide +kernel
end
def wo_L_unary : List Cond := .codeWith yL_unary cL_unary 5 (some .int) [(0, 10, 13, 13), (0, 10, 17, 21), (0, 10, 21, 23), (0, 10, 25, 15)] :: ([.classLink RL 13 "java/lang/IllegalArgumentException"] ++ ((wsV RL 36 RX11 yX11_unary wo_X11_unary) ++ []))
set_option maxHeartbeats 4000000 in
set_option maxRecDepth 100000 in
theorem o_L_unary (l : Launch) (hlt : l.stackTraces = false) (dC : Nat → ClassId) (dI : Nat → Nat → Nat) (x : Nat) (j : Int32) (o : Nat) (a1 : Nat) (a2 : Nat) (a3 : Nat) (a4 : Nat) (a5 : Nat) (a6 : Nat) (sz : Nat) : Met l yL_unary wo_L_unary ({ frames := 8, cells := 1, slots := 6, locals := 180 }) (va_Pc [.ref x, .int 0, .int j, .ref o] (fun U => U.heap.size = sz ∧ va_P (dC, dI) vwCl [(x, .inr (13, [.ref a1, .ref a2, .ref a3, .ref a4, .ref a5, .ref a6, .long 0]))] U.heap ∧ va_K (dC, dI) vwCl [] U ∧ va_D (fun _ => True) [(x, .inr (13, [.ref a1, .ref a2, .ref a3, .ref a4, .ref a5, .ref a6, .long 0]))] ∧ xw (va_A [(x, .inr (13, [.ref a1, .ref a2, .ref a3, .ref a4, .ref a5, .ref a6, .long 0]))] sz) U U.heap ∧ sW RX11 176 (va_A [(x, .inr (13, [.ref a1, .ref a2, .ref a3, .ref a4, .ref a5, .ref a6, .long 0]))] sz) U U.heap)) (va_Qi (fun (r : Int32) (_ : Unit) => r = 1) (fun _ t => True) (va_A [(x, .inr (13, [.ref a1, .ref a2, .ref a3, .ref a4, .ref a5, .ref a6, .long 0]))] sz)) 1 6 (va_A [(x, .inr (13, [.ref a1, .ref a2, .ref a3, .ref a4, .ref a5, .ref a6, .long 0]))] sz) := by
  refine va_MetW (cc := cL_unary) (maxL := 5) (ret := (some .int)) (by decide +kernel) rfl ?_
  intro p e s m args below meth c s₁ B hml hv
  obtain ⟨rfl, hsz, hP, hK, hD0, hH⟩ := hv
  have hx := B.exec
  have hb := B.bytes
  have hr := B.returns
  have hts := atoms_spec (ws := wo_L_unary) B.pre
  have hown : s.vm.findClass RL = some m.cls := findClass_of_methodNamed B.named
  have hlocks := B.notSynchronized
  subst hsz
  have hD := hD0.self (sz := s.heap.size)
  generalize hAe : va_A [(x, .inr (13, [.ref a1, .ref a2, .ref a3, .ref a4, .ref a5, .ref a6, .long 0]))] s.heap.size = A at hD hH ⊢
  have hA : ∀ q : Nat, s.heap.size ≤ q → A q := fun q h => by rw [← hAe]; exact Or.inr h
  have hS : va_S A s.heap s.heap [] := va_S.rf
  have hP : va_P (dC, dI) vwCl [(x, .inr (13, [.ref a1, .ref a2, .ref a3, .ref a4, .ref a5, .ref a6, .long 0]))] s.heap := hP
  have hl := lv_entry ([.ref x, .int 0, .int j, .ref o]) (n := 5) (Nat.le_of_ble_eq_true rfl)
  rw [lg_entry_eq]
  generalize (lg_sl ([.ref x, .int 0, .int j, .ref o]) ++ List.replicate (5 - (lg_sl ([.ref x, .int 0, .int j, .ref o])).length) Slot.unset).toArray = ls at hl ⊢
  have hl : lv_has ls 5 [(0, .ref x), (1, .int 0), (2, .int j), (3, .ref o)] := hl
  obtain ⟨hX, hH⟩ := hH
  refine lv_aload_n hx hb dL_unary_0 rfl (lv_at hl 3 rfl) ?_
  refine lv_iconst (v := 0) hx hb dL_unary_1 (by decide) ?_
  refine lv_aload_n hx hb dL_unary_2 rfl (lv_at hl 0 rfl) ?_
  refine lv_iload_n hx hb dL_unary_3 rfl (lv_at hl 1 rfl) ?_
  refine lv_iload_n hx hb dL_unary_4 rfl (lv_at hl 2 rfl) ?_
  have hPc := hP.sub (ws' := []) [] rfl
  have hKc := hK.sub (tys' := []) [] rfl
  have hDc := hD.sub (ws' := []) [] (by decide) rfl
  have hFc := va_free (wc := []) hD hS hA [] rfl
  refine vx_calli (vx_runV (As := [.int 0, .int j]) (rest := [.int 0, .ref o]) ⟨hx, hb, hml, hown, hts⟩ (o_X11_unary l hlt dC dI x j _) (cwV 2 hts (goodIn_sub (ws := wsV RL 36 RX11 yX11_unary wo_X11_unary) (fun w h => (List.mem_cons_of_mem _ (List.mem_append_right _ (List.mem_append_left _ h)))) (by decide +kernel)) rfl rfl rfl (by decide +kernel) ⟨Nat.le_of_ble_eq_true rfl, Nat.le_of_ble_eq_true rfl⟩) ⟨fun a U g mk q => by obtain ⟨q0, q1, qP, qK, qD, qX, qH⟩ := q; exact ⟨q0, q1, qP, va_K.moved (u := U) (U := U.calling g mk a) (Vm.Alike.refl U.vm) qK, qD, xw.blind a g mk qX, qH.blind a g mk⟩, va_recv hK hP (ci := 13) (q0 := 0) rfl rfl, fun U hU hW => ⟨rfl, by rw [hU], by rw [hU]; exact hPc, va_K.moved hW.alike hKc, hDc.weaken (fun _ _ _ _ => trivial), xw.call hX hS hFc hW hU, hH.call hS hFc hW hU⟩⟩ rfl rfl hl.1 rfl (lv_room (Nat.le_of_ble_eq_true rfl)) dL_unary_5 ⟨(Nat.le_of_ble_eq_true rfl), (Nat.le_of_ble_eq_true rfl)⟩) hS (fun q _ h => hFc q h) hFc (fun q _ h => hFc q h) (fun E ce q9 u t H1 locs ht hvm hw hB hz1 hk1 hS hq9 hcv hcl => ?_) (fun r_1 u t H1 locs ht hvm hw hB hz1 hk1 hS => ?_)
  · have hK1 : va_K (dC, dI) vwCl _ s := hK
    subst hB
    refine vx_catch hown [] ⟨0, 10, 13, 13⟩ _ ((vx_table (x := yL_unary) B (hts _ List.mem_cons_self)).trans rfl) (fun z hz => nomatch hz) (by decide) (by decide) (hts (.classLink RL 13 "java/lang/IllegalArgumentException") (by decide +kernel)) (va_Nw.use rfl (hX.2.1.1 _ (by decide +kernel))) hq9 hcv hcl ?_
    refine lv_astore (lv' := [(4, .ref q9), (0, .ref x), (1, .int 0), (2, .int j), (3, .ref o)]) hx hb dL_unary_13 hl (by decide) rfl (fun ls hl => ?_)
    refine lv_iconst (v := 1) hx hb dL_unary_15 (by decide) ?_
    exact W.iret (v := 1) hx hb hr (fun t ht hW => ⟨⟨1, (), rfl, rfl, trivial⟩, hS.F ht⟩) hS.2.2 dL_unary_16
  · exact absurd hw.1 (by decide)

def od_xs : Nat → Int32 := fun j => if j = 0 then 5 else 0
def wo_law : List Cond := .code yL_law cL_law 8 (some .boolean) :: ([.classLink RL 8 RX11, .instantiable RX11 7, .initialized RX11, .methodLink RL 117 yX11_init, .instanceMethod yX11_init, .classLink RL 118 RX18, .instantiable RX18 18, .initialized RX18, .methodLink RL 120 yX18_init, .instanceMethod yX18_init, .arrayClass .long, .arrayClass .double] ++ (wsX110 ++ (wc_X11_init ++ (wsX180 ++ (wc_X18_init ++ ((va_wsS RL 142 yL_unary wo_L_unary) ++ ((wsV RL 145 RX18 yX18_unary wo_X18_unary) ++ [])))))))
set_option maxHeartbeats 4000000 in
set_option maxRecDepth 100000 in
theorem o_law (l : Launch) (hlt : l.stackTraces = false) (dC : Nat → ClassId) (dI : Nat → Nat → Nat) (b : Nat) (sz : Nat) : vx_Met l yL_law wo_law ({ frames := 12, cells := 240, slots := 16200, locals := 300 }) (va_Pc [.ref b] (fun U => U.heap.size = sz ∧ va_P (dC, dI) vwCl [] U.heap ∧ va_K (dC, dI) vwCl [] U ∧ va_D (fun _ => True) [] ∧ xw (va_A [] sz) U U.heap ∧ (b < U.heap.size ∧ va_X b 4 od_xs U U.heap) ∧ sW RX11 176 (va_A [] sz) U U.heap ∧ sW RX18 137 (va_A [] sz) U U.heap ∧ nw U ∧ nm U ∧ od U)) (va_Qi (fun (r : Int32) (_ : Unit) => "java/lang/IllegalStateException" = "" ∧ True) (fun _ t => True) (va_A [] sz)) (vx_X (fun _ : Unit => True) (fun E _ _ => E = "java/lang/IllegalStateException") (va_A [] sz)) 240 16200 (va_A [] sz) := by
  refine vx_ofW (cc := cL_law) (maxL := 8) (ret := (some .boolean)) (by decide +kernel) rfl ?_
  intro p e s m args below meth c s₁ B hml hno hv
  obtain ⟨rfl, hsz, hP, hK, hD0, hX, hH⟩ := hv
  have hx := B.exec
  have hb := B.bytes
  have hr := B.returns
  have hts := atoms_spec (ws := wo_law) B.pre
  have hown : s.vm.findClass RL = some m.cls := findClass_of_methodNamed B.named
  have hlocks := B.notSynchronized
  subst hsz
  have hD := hD0.self (sz := s.heap.size)
  generalize hAe : va_A [] s.heap.size = A at hD hX hH ⊢
  have hA : ∀ q : Nat, s.heap.size ≤ q → A q := fun q h => by rw [← hAe]; exact Or.inr h
  have hS : va_S A s.heap s.heap [] := va_S.rf
  have hP : va_P (dC, dI) vwCl [] s.heap := hP
  have hl := lv_entry ([.ref b]) (n := 8) (Nat.le_of_ble_eq_true rfl)
  rw [lg_entry_eq]
  generalize (lg_sl ([.ref b]) ++ List.replicate (8 - (lg_sl ([.ref b])).length) Slot.unset).toArray = ls at hl ⊢
  have hl : lv_has ls 8 [(0, .ref b)] := hl
  obtain ⟨⟨hbl, hXs⟩, hW176, hW137, hN, hM, hO⟩ := hH
  have hbA : ¬ A b := by rw [← hAe]; exact fun h => h.elim (fun ⟨k, e, h⟩ => by simp at h) (fun h => Nat.not_le.mpr hbl h)
  refine va_new (ci := 13) (fs := [.null, .null, .null, .null, .null, .null, .long 0]) (C := RX11) (T := TX11) (N := 7) hx hb hts (fun w h => (List.mem_cons_of_mem _ (List.mem_append_right _ (List.mem_append_left _ h)))) tyX11 tyX11_ok hown (hts (.classLink RL 8 RX11) (by decide +kernel)) (hts (.instantiable RX11 7) (by decide +kernel)) (hts (.initialized RX11) (by decide +kernel)) hK hP hD hS hA rfl (fun j hj => by rcases (show j = 0 ∨ j = 1 ∨ j = 2 ∨ j = 3 ∨ j = 4 ∨ j = 5 ∨ j = 6 by omega) with rfl | rfl | rfl | rfl | rfl | rfl | rfl <;> rfl) (Nat.le_of_ble_eq_true rfl) (Nat.le_of_ble_eq_true rfl) dL_law_0 (fun q1 H hP hD hS => ?_)
  have hP : va_P (dC, dI) vwCl [(q1, .inr (13, [.null, .null, .null, .null, .null, .null, .long 0]))] H := hP
  have hD : va_D A [(q1, .inr (13, [.null, .null, .null, .null, .null, .null, .long 0]))] := hD
  refine W.widen (k := 1) (n := 7) (by decide) (by decide) ?_
  refine lv_dup hx hb dL_law_3 rfl ?_
  have hPc := hP.sub (ws' := [(q1, .inr (13, [.null, .null, .null, .null, .null, .null, .long 0]))]) [0] rfl
  have hKc := hK.sub (tys' := []) [] rfl
  have hDc := hD.sub (ws' := [(q1, .inr (13, [.null, .null, .null, .null, .null, .null, .long 0]))]) [0] (by decide) rfl
  have hFc := va_free (wc := [(q1, .inr (13, [.null, .null, .null, .null, .null, .null, .long 0]))]) hD hS hA [0] rfl
  refine va_callv (va_runI (As := []) (rest := [.ref q1]) ⟨hx, hb, hml, hown, hts⟩ (c_X11_init l dC dI q1 _) (cwI 0 hts (goodIn_sub (ws := wc_X11_init) (fun w h => (List.mem_cons_of_mem _ (List.mem_append_right _ (List.mem_append_right _ (List.mem_append_left _ h))))) (by decide +kernel)) rfl rfl rfl (hts (.initialized RX11) (by decide +kernel)) (hts (.methodLink RL 117 yX11_init) (by decide +kernel)) (hts (.instanceMethod yX11_init) (by decide +kernel)) rfl (by decide +kernel) ⟨Nat.le_of_ble_eq_true rfl, Nat.le_of_ble_eq_true rfl⟩) ⟨fun a U g mk q => by obtain ⟨q0, q1, qP, qK, qD, qH⟩ := q; exact ⟨q0, q1, qP, va_K.moved (u := U) (U := U.calling g mk a) (Vm.Alike.refl U.vm) qK, qD, qH.blind a g mk⟩, fun U hU hW => ⟨rfl, by rw [hU], by rw [hU]; exact hPc, va_K.moved hW.alike hKc, hDc.weaken (fun _ _ _ _ => trivial), hN.warm hW⟩⟩ rfl rfl hl.1 rfl (lv_room (Nat.le_of_ble_eq_true rfl)) dL_law_4 ⟨(Nat.le_of_ble_eq_true rfl), (Nat.le_of_ble_eq_true rfl)⟩) hS (fun q _ h => hFc q h) hFc (fun u t H1 locs ht hvm hw hB hz1 hk1 hS => ?_)
  obtain ⟨a1_3, a2_4, a3_5, a4_6, a5_7, a6_8, hP1, hK1, hD1⟩ := hB
  rw [ht] at hP1
  have hK1 := va_K.moved hvm.symm hK1
  try dsimp only at hw
  obtain ⟨hP, hD⟩ := va_join (wr := []) (w1 := [(q1, .inr (13, [.ref a1_3, .ref a2_4, .ref a3_5, .ref a4_6, .ref a5_7, .ref a6_8, .long 0]))]) hP hD [0] [] rfl rfl (by decide) (by decide) hk1 hFc hP1 hD1
  generalize H1 = H at hP hS ⊢
  have hP : va_P (dC, dI) vwCl [(q1, .inr (13, [.ref a1_3, .ref a2_4, .ref a3_5, .ref a4_6, .ref a5_7, .ref a6_8, .long 0]))] H := hP
  have hD : va_D A [(q1, .inr (13, [.ref a1_3, .ref a2_4, .ref a3_5, .ref a4_6, .ref a5_7, .ref a6_8, .long 0]))] := hD
  refine lv_astore_n (lv' := [(1, .ref q1), (0, .ref b)]) hx hb dL_law_7 rfl hl (by decide) rfl (fun ls hl => ?_)
  refine va_new (ci := 20) (fs := [.null, .null, .null, .int 0, .int 0, .int 0, .int 0, .null, .null, .null, .null, .null, .null, .null, .long 0, .int 0, .int 0, .int 0]) (C := RX18) (T := TX18) (N := 18) hx hb hts (fun w h => (List.mem_cons_of_mem _ (List.mem_append_right _ (List.mem_append_right _ (List.mem_append_right _ (List.mem_append_left _ h)))))) tyX18 tyX18_ok hown (hts (.classLink RL 118 RX18) (by decide +kernel)) (hts (.instantiable RX18 18) (by decide +kernel)) (hts (.initialized RX18) (by decide +kernel)) hK hP hD hS hA rfl (fun j hj => by rcases (show j = 0 ∨ j = 1 ∨ j = 2 ∨ j = 3 ∨ j = 4 ∨ j = 5 ∨ j = 6 ∨ j = 7 ∨ j = 8 ∨ j = 9 ∨ j = 10 ∨ j = 11 ∨ j = 12 ∨ j = 13 ∨ j = 14 ∨ j = 15 ∨ j = 16 ∨ j = 17 by omega) with rfl | rfl | rfl | rfl | rfl | rfl | rfl | rfl | rfl | rfl | rfl | rfl | rfl | rfl | rfl | rfl | rfl | rfl <;> rfl) (Nat.le_of_ble_eq_true rfl) (Nat.le_of_ble_eq_true rfl) dL_law_8 (fun q9 H hP hD hS => ?_)
  have hP : va_P (dC, dI) vwCl [(q1, .inr (13, [.ref a1_3, .ref a2_4, .ref a3_5, .ref a4_6, .ref a5_7, .ref a6_8, .long 0])), (q9, .inr (20, [.null, .null, .null, .int 0, .int 0, .int 0, .int 0, .null, .null, .null, .null, .null, .null, .null, .long 0, .int 0, .int 0, .int 0]))] H := hP
  have hD : va_D A [(q1, .inr (13, [.ref a1_3, .ref a2_4, .ref a3_5, .ref a4_6, .ref a5_7, .ref a6_8, .long 0])), (q9, .inr (20, [.null, .null, .null, .int 0, .int 0, .int 0, .int 0, .null, .null, .null, .null, .null, .null, .null, .long 0, .int 0, .int 0, .int 0]))] := hD
  refine W.widen (k := 224) (n := 11393) (by decide) (by decide) ?_
  refine lv_dup hx hb dL_law_11 rfl ?_
  have hPc := hP.sub (ws' := [(q9, .inr (20, [.null, .null, .null, .int 0, .int 0, .int 0, .int 0, .null, .null, .null, .null, .null, .null, .null, .long 0, .int 0, .int 0, .int 0]))]) [1] rfl
  have hKc := hK.sub (tys' := []) [] rfl
  have hDc := hD.sub (ws' := [(q9, .inr (20, [.null, .null, .null, .int 0, .int 0, .int 0, .int 0, .null, .null, .null, .null, .null, .null, .null, .long 0, .int 0, .int 0, .int 0]))]) [1] (by decide) rfl
  have hFc := va_free (wc := [(q9, .inr (20, [.null, .null, .null, .int 0, .int 0, .int 0, .int 0, .null, .null, .null, .null, .null, .null, .null, .long 0, .int 0, .int 0, .int 0]))]) hD hS hA [1] rfl
  refine va_callv (va_runI (As := []) (rest := [.ref q9]) ⟨hx, hb, hml, hown, hts⟩ (c_X18_init l dC dI q9 _) (cwI 0 hts (goodIn_sub (ws := wc_X18_init) (fun w h => (List.mem_cons_of_mem _ (List.mem_append_right _ (List.mem_append_right _ (List.mem_append_right _ (List.mem_append_right _ (List.mem_append_left _ h))))))) (by decide +kernel)) rfl rfl rfl (hts (.initialized RX18) (by decide +kernel)) (hts (.methodLink RL 120 yX18_init) (by decide +kernel)) (hts (.instanceMethod yX18_init) (by decide +kernel)) rfl (by decide +kernel) ⟨Nat.le_of_ble_eq_true rfl, Nat.le_of_ble_eq_true rfl⟩) ⟨fun a U g mk q => by obtain ⟨q0, q1, qP, qK, qD, qH⟩ := q; exact ⟨q0, q1, qP, va_K.moved (u := U) (U := U.calling g mk a) (Vm.Alike.refl U.vm) qK, qD, qH.blind a g mk⟩, fun U hU hW => ⟨rfl, by rw [hU], by rw [hU]; exact hPc, va_K.moved hW.alike hKc, hDc.weaken (fun _ _ _ _ => trivial), hM.warm hW⟩⟩ rfl rfl hl.1 rfl (lv_room (Nat.le_of_ble_eq_true rfl)) dL_law_12 ⟨(Nat.le_of_ble_eq_true rfl), (Nat.le_of_ble_eq_true rfl)⟩) hS (fun q _ h => hFc q h) hFc (fun u t H1 locs ht hvm hw hB hz1 hk1 hS => ?_)
  obtain ⟨m0_11, m1_12, m2_13, m7_14, m8_15, m9_16, m10_17, m11_18, m12_19, hP1, hK1, hD1⟩ := hB
  rw [ht] at hP1
  have hK1 := va_K.moved hvm.symm hK1
  try dsimp only at hw
  obtain ⟨hP, hD⟩ := va_join (wr := [(q1, .inr (13, [.ref a1_3, .ref a2_4, .ref a3_5, .ref a4_6, .ref a5_7, .ref a6_8, .long 0]))]) (w1 := [(q9, .inr (20, [.ref m0_11, .ref m1_12, .ref m2_13, .int 0, .int 0, .int 0, .int 0, .ref m7_14, .ref m8_15, .ref m9_16, .ref m10_17, .ref m11_18, .ref m12_19, .null, .long 0, .int 0, .int 0, .int 0]))]) hP hD [1] [0] rfl rfl (by decide) (by decide) hk1 hFc hP1 hD1
  generalize H1 = H at hP hS ⊢
  have hP : va_P (dC, dI) vwCl [(q1, .inr (13, [.ref a1_3, .ref a2_4, .ref a3_5, .ref a4_6, .ref a5_7, .ref a6_8, .long 0])), (q9, .inr (20, [.ref m0_11, .ref m1_12, .ref m2_13, .int 0, .int 0, .int 0, .int 0, .ref m7_14, .ref m8_15, .ref m9_16, .ref m10_17, .ref m11_18, .ref m12_19, .null, .long 0, .int 0, .int 0, .int 0]))] H := hP
  have hD : va_D A [(q1, .inr (13, [.ref a1_3, .ref a2_4, .ref a3_5, .ref a4_6, .ref a5_7, .ref a6_8, .long 0])), (q9, .inr (20, [.ref m0_11, .ref m1_12, .ref m2_13, .int 0, .int 0, .int 0, .int 0, .ref m7_14, .ref m8_15, .ref m9_16, .ref m10_17, .ref m11_18, .ref m12_19, .null, .long 0, .int 0, .int 0, .int 0]))] := hD
  refine lv_astore_n (lv' := [(2, .ref q9), (1, .ref q1), (0, .ref b)]) hx hb dL_law_15 rfl hl (by decide) rfl (fun ls hl => ?_)
  refine lv_iconst (v := 1) hx hb dL_law_16 (by decide) ?_
  refine va_newa (atype := .long) (ty := .long) (a0 := (1, .inr (.inl (fun _ => (0 : Int64))))) (N' := 1) hx hb (hts (.arrayClass .long) (by decide +kernel)) rfl hK hP hD hS hA (fun _ => rfl) (by decide) (by decide) (Nat.le_of_ble_eq_true rfl) (Nat.le_of_ble_eq_true rfl) (Nat.le_of_ble_eq_true rfl) dL_law_17 (fun q20 cA21 H hK hP hD hS => ?_)
  have hK : va_K (dC, dI) vwCl [(cA21, .long)] s := hK
  have hP : va_P (dC, dI) vwCl [(q1, .inr (13, [.ref a1_3, .ref a2_4, .ref a3_5, .ref a4_6, .ref a5_7, .ref a6_8, .long 0])), (q9, .inr (20, [.ref m0_11, .ref m1_12, .ref m2_13, .int 0, .int 0, .int 0, .int 0, .ref m7_14, .ref m8_15, .ref m9_16, .ref m10_17, .ref m11_18, .ref m12_19, .null, .long 0, .int 0, .int 0, .int 0])), (q20, .inl (cA21, 1, .inr (.inl (fun _ => (0 : Int64)))))] H := hP
  have hD : va_D A [(q1, .inr (13, [.ref a1_3, .ref a2_4, .ref a3_5, .ref a4_6, .ref a5_7, .ref a6_8, .long 0])), (q9, .inr (20, [.ref m0_11, .ref m1_12, .ref m2_13, .int 0, .int 0, .int 0, .int 0, .ref m7_14, .ref m8_15, .ref m9_16, .ref m10_17, .ref m11_18, .ref m12_19, .null, .long 0, .int 0, .int 0, .int 0])), (q20, .inl (cA21, 1, .inr (.inl (fun _ => (0 : Int64)))))] := hD
  refine W.widen (k := 234) (n := 11596) (by decide) (by decide) ?_
  refine lv_astore_n (lv' := [(3, .ref q20), (2, .ref q9), (1, .ref q1), (0, .ref b)]) hx hb dL_law_19 rfl hl (by decide) rfl (fun ls hl => ?_)
  refine lv_iconst (v := 1) hx hb dL_law_20 (by decide) ?_
  refine va_newa (atype := .double) (ty := .double) (a0 := (1, .inr (.inr (.inr (.inl (fun _ => (0 : UInt64))))))) (N' := 1) hx hb (hts (.arrayClass .double) (by decide +kernel)) rfl hK hP hD hS hA (fun _ => rfl) (by decide) (by decide) (Nat.le_of_ble_eq_true rfl) (Nat.le_of_ble_eq_true rfl) (Nat.le_of_ble_eq_true rfl) dL_law_21 (fun q22 cA23 H hK hP hD hS => ?_)
  have hK : va_K (dC, dI) vwCl [(cA21, .long), (cA23, .double)] s := hK
  have hP : va_P (dC, dI) vwCl [(q1, .inr (13, [.ref a1_3, .ref a2_4, .ref a3_5, .ref a4_6, .ref a5_7, .ref a6_8, .long 0])), (q9, .inr (20, [.ref m0_11, .ref m1_12, .ref m2_13, .int 0, .int 0, .int 0, .int 0, .ref m7_14, .ref m8_15, .ref m9_16, .ref m10_17, .ref m11_18, .ref m12_19, .null, .long 0, .int 0, .int 0, .int 0])), (q20, .inl (cA21, 1, .inr (.inl (fun _ => (0 : Int64))))), (q22, .inl (cA23, 1, .inr (.inr (.inr (.inl (fun _ => (0 : UInt64)))))))] H := hP
  have hD : va_D A [(q1, .inr (13, [.ref a1_3, .ref a2_4, .ref a3_5, .ref a4_6, .ref a5_7, .ref a6_8, .long 0])), (q9, .inr (20, [.ref m0_11, .ref m1_12, .ref m2_13, .int 0, .int 0, .int 0, .int 0, .ref m7_14, .ref m8_15, .ref m9_16, .ref m10_17, .ref m11_18, .ref m12_19, .null, .long 0, .int 0, .int 0, .int 0])), (q20, .inl (cA21, 1, .inr (.inl (fun _ => (0 : Int64))))), (q22, .inl (cA23, 1, .inr (.inr (.inr (.inl (fun _ => (0 : UInt64)))))))] := hD
  refine W.widen (k := 235) (n := 11597) (by decide) (by decide) ?_
  refine lv_astore (lv' := [(4, .ref q22), (3, .ref q20), (2, .ref q9), (1, .ref q1), (0, .ref b)]) hx hb dL_law_23 hl (by decide) rfl (fun ls hl => ?_)
  refine lv_iconst (v := 0) hx hb dL_law_25 (by decide) ?_
  refine lv_istore (lv' := [(5, .int 0), (4, .ref q22), (3, .ref q20), (2, .ref q9), (1, .ref q1), (0, .ref b)]) hx hb dL_law_26 hl (by decide) rfl (fun ls hl => ?_)
  refine lv_iload hx hb dL_law_28 (lv_at hl 0 rfl) ?_
  refine lv_aload_n hx hb dL_law_30 rfl (lv_at hl 5 rfl) ?_
  refine va_slen hx hb hXs hbl hbA hS dL_law_31 ?_
  refine lv_topi (fun x24 ex24 => ?_)
  obtain rfl : x24 = 4 := ex24.trans (by decide)
  refine lv_iconst (v := 4) hx hb dL_law_32 (by decide) ?_
  refine lv_isub hx hb dL_law_33 ?_
  refine lv_topi (fun x25 ex25 => ?_)
  obtain rfl : x25 = 0 := ex25.trans (by decide)
  refine lv_icmp_gt (tgt := 1292) hx hb dL_law_34 (by decide) (fun c_26 => absurd c_26 (by decide)) (fun c_26 => ?_)
  refine lv_aload_n hx hb dL_law_37 rfl (lv_at hl 5 rfl) ?_
  refine lv_iload hx hb dL_law_38 (lv_at hl 0 rfl) ?_
  refine va_sld hx hb hXs hbl hbA hS (by unfold vp_in; decide) dL_law_40 ?_
  refine lv_topi (fun x27 ex27 => ?_)
  obtain rfl : x27 = 5 := ex27.trans (by decide)
  refine lv_bipush (v := 63) hx hb dL_law_41 (by decide) ?_
  refine lv_iand hx hb dL_law_43 ?_
  refine lv_topi (fun x28 ex28 => ?_)
  obtain rfl : x28 = 5 := ex28.trans (by decide)
  refine lv_tableIn (off := 376) (tgt := 420) hx hb dL_law_44 (by decide) (by decide) (by decide) (by decide) ?_
  refine lv_aload_n hx hb dL_law_420 rfl (lv_at hl 4 rfl) ?_
  refine lv_aload_n hx hb dL_law_421 rfl (lv_at hl 5 rfl) ?_
  refine lv_iload hx hb dL_law_422 (lv_at hl 0 rfl) ?_
  refine lv_iconst (v := 1) hx hb dL_law_424 (by decide) ?_
  refine lv_iadd hx hb dL_law_425 ?_
  refine lv_topi (fun x29 ex29 => ?_)
  obtain rfl : x29 = 1 := ex29.trans (by decide)
  refine va_sld hx hb hXs hbl hbA hS (by unfold vp_in; decide) dL_law_426 ?_
  refine lv_topi (fun x30 ex30 => ?_)
  obtain rfl : x30 = 0 := ex30.trans (by decide)
  refine lv_i2c (v := 0) hx hb dL_law_427 (by decide) ?_
  refine lv_aload_n hx hb dL_law_428 rfl (lv_at hl 5 rfl) ?_
  refine lv_iload hx hb dL_law_429 (lv_at hl 0 rfl) ?_
  refine lv_iconst (v := 2) hx hb dL_law_431 (by decide) ?_
  refine lv_iadd hx hb dL_law_432 ?_
  refine lv_topi (fun x31 ex31 => ?_)
  obtain rfl : x31 = 2 := ex31.trans (by decide)
  refine va_sld hx hb hXs hbl hbA hS (by unfold vp_in; decide) dL_law_433 ?_
  refine lv_topi (fun x32 ex32 => ?_)
  obtain rfl : x32 = 0 := ex32.trans (by decide)
  refine lv_aload_n hx hb dL_law_434 rfl (lv_at hl 2 rfl) ?_
  have hPc := hP.sub (ws' := [(q1, .inr (13, [.ref a1_3, .ref a2_4, .ref a3_5, .ref a4_6, .ref a5_7, .ref a6_8, .long 0]))]) [0] rfl
  have hKc := hK.sub (tys' := []) [] rfl
  have hDc := hD.sub (ws' := [(q1, .inr (13, [.ref a1_3, .ref a2_4, .ref a3_5, .ref a4_6, .ref a5_7, .ref a6_8, .long 0]))]) [0] (by decide) rfl
  have hFc := va_free (wc := [(q1, .inr (13, [.ref a1_3, .ref a2_4, .ref a3_5, .ref a4_6, .ref a5_7, .ref a6_8, .long 0]))]) hD hS hA [0] rfl
  refine va_calli (vx_runSW (As := [.ref q1, .int 0, .int 0, .ref q20]) (rest := []) ⟨hx, hb, hml, hown, hts⟩ (o_L_unary l hlt dC dI q1 0 q20 a1_3 a2_4 a3_5 a4_6 a5_7 a6_8 _) (vx_cwSW 4 hts (goodIn_sub (ws := va_wsS RL 142 yL_unary wo_L_unary) (fun w h => (List.mem_cons_of_mem _ (List.mem_append_right _ (List.mem_append_right _ (List.mem_append_right _ (List.mem_append_right _ (List.mem_append_right _ (List.mem_append_left _ h)))))))) (by decide +kernel)) rfl rfl rfl (by decide +kernel) ⟨Nat.le_of_ble_eq_true rfl, Nat.le_of_ble_eq_true rfl⟩) ⟨fun a U g mk q => by obtain ⟨q0, q1, qP, qK, qD, qH⟩ := q; exact ⟨q0, q1, qP, va_K.moved (u := U) (U := U.calling g mk a) (Vm.Alike.refl U.vm) qK, qD, ⟨xw.blind a g mk qH.1, qH.2.blind a g mk⟩⟩, fun U hU hW => ⟨rfl, by rw [hU], by rw [hU]; exact hPc, va_K.moved hW.alike hKc, hDc.weaken (fun _ _ _ _ => trivial), ⟨hX.call hS hFc hW hU, hW176.call hS hFc hW hU⟩⟩⟩ rfl rfl hl.1 rfl (lv_room (Nat.le_of_ble_eq_true rfl)) dL_law_435 ⟨(Nat.le_of_ble_eq_true rfl), (Nat.le_of_ble_eq_true rfl)⟩) hS (fun q _ h => hFc q h) hFc (fun r_33 u t H1 locs ht hvm hw hB hz1 hk1 hS => ?_)
  have hP1 : va_P (dC, dI) vwCl [] H1 := fun k q h => by simp at h
  have hD1 : ∀ B : Nat → Prop, va_D B [] := fun B => ⟨fun i j p q h => by simp at h, fun k q h => by simp at h⟩
  try dsimp only at hw
  obtain ⟨hP, hD⟩ := va_join (wr := [(q9, .inr (20, [.ref m0_11, .ref m1_12, .ref m2_13, .int 0, .int 0, .int 0, .int 0, .ref m7_14, .ref m8_15, .ref m9_16, .ref m10_17, .ref m11_18, .ref m12_19, .null, .long 0, .int 0, .int 0, .int 0])), (q20, .inl (cA21, 1, .inr (.inl (fun _ => (0 : Int64))))), (q22, .inl (cA23, 1, .inr (.inr (.inr (.inl (fun _ => (0 : UInt64)))))))]) (w1 := []) hP hD [0] [1, 2, 3] rfl rfl (by decide) (by decide) hk1 hFc hP1 (hD1 _)
  generalize H1 = H at hP hS ⊢
  have hP : va_P (dC, dI) vwCl [(q9, .inr (20, [.ref m0_11, .ref m1_12, .ref m2_13, .int 0, .int 0, .int 0, .int 0, .ref m7_14, .ref m8_15, .ref m9_16, .ref m10_17, .ref m11_18, .ref m12_19, .null, .long 0, .int 0, .int 0, .int 0])), (q20, .inl (cA21, 1, .inr (.inl (fun _ => (0 : Int64))))), (q22, .inl (cA23, 1, .inr (.inr (.inr (.inl (fun _ => (0 : UInt64)))))))] H := hP
  have hD : va_D A [(q9, .inr (20, [.ref m0_11, .ref m1_12, .ref m2_13, .int 0, .int 0, .int 0, .int 0, .ref m7_14, .ref m8_15, .ref m9_16, .ref m10_17, .ref m11_18, .ref m12_19, .null, .long 0, .int 0, .int 0, .int 0])), (q20, .inl (cA21, 1, .inr (.inl (fun _ => (0 : Int64))))), (q22, .inl (cA23, 1, .inr (.inr (.inr (.inl (fun _ => (0 : UInt64)))))))] := hD
  obtain rfl := hw
  refine lv_istore (lv' := [(6, .int 1), (5, .int 0), (4, .ref q22), (3, .ref q20), (2, .ref q9), (1, .ref q1), (0, .ref b)]) hx hb dL_law_438 hl (by decide) rfl (fun ls hl => ?_)
  refine lv_aload_n hx hb dL_law_440 rfl (lv_at hl 4 rfl) ?_
  refine lv_aload_n hx hb dL_law_441 rfl (lv_at hl 6 rfl) ?_
  refine lv_iload hx hb dL_law_442 (lv_at hl 1 rfl) ?_
  refine lv_iconst (v := 1) hx hb dL_law_444 (by decide) ?_
  refine lv_iadd hx hb dL_law_445 ?_
  refine lv_topi (fun x34 ex34 => ?_)
  obtain rfl : x34 = 1 := ex34.trans (by decide)
  refine va_sld hx hb hXs hbl hbA hS (by unfold vp_in; decide) dL_law_446 ?_
  refine lv_topi (fun x35 ex35 => ?_)
  obtain rfl : x35 = 0 := ex35.trans (by decide)
  refine lv_i2c (v := 0) hx hb dL_law_447 (by decide) ?_
  refine lv_aload_n hx hb dL_law_448 rfl (lv_at hl 6 rfl) ?_
  refine lv_iload hx hb dL_law_449 (lv_at hl 1 rfl) ?_
  refine lv_iconst (v := 2) hx hb dL_law_451 (by decide) ?_
  refine lv_iadd hx hb dL_law_452 ?_
  refine lv_topi (fun x36 ex36 => ?_)
  obtain rfl : x36 = 2 := ex36.trans (by decide)
  refine va_sld hx hb hXs hbl hbA hS (by unfold vp_in; decide) dL_law_453 ?_
  refine lv_topi (fun x37 ex37 => ?_)
  obtain rfl : x37 = 0 := ex37.trans (by decide)
  have hPc := hP.sub (ws' := []) [] rfl
  have hKc := hK.sub (tys' := []) [] rfl
  have hDc := hD.sub (ws' := []) [] (by decide) rfl
  have hFc := va_free (wc := []) hD hS hA [] rfl
  refine vx_calli (vx_runV (As := [.int 0, .int 0]) (rest := []) ⟨hx, hb, hml, hown, hts⟩ (o_X18_unary l hlt dC dI q9 0 0 _) (cwV 2 hts (goodIn_sub (ws := wsV RL 145 RX18 yX18_unary wo_X18_unary) (fun w h => (List.mem_cons_of_mem _ (List.mem_append_right _ (List.mem_append_right _ (List.mem_append_right _ (List.mem_append_right _ (List.mem_append_right _ (List.mem_append_right _ (List.mem_append_left _ h))))))))) (by decide +kernel)) rfl rfl rfl (by decide +kernel) ⟨Nat.le_of_ble_eq_true rfl, Nat.le_of_ble_eq_true rfl⟩) ⟨fun a U g mk q => by obtain ⟨q0, q1, qP, qK, qD, qX, qH⟩ := q; exact ⟨q0, q1, qP, va_K.moved (u := U) (U := U.calling g mk a) (Vm.Alike.refl U.vm) qK, qD, xw.blind a g mk qX, ⟨qH.1.blind a g mk, qH.2.blind a g mk⟩⟩, va_recv hK hP (ci := 20) (q0 := 0) rfl rfl, fun U hU hW => ⟨rfl, by rw [hU], by rw [hU]; exact hPc, va_K.moved hW.alike hKc, hDc.weaken (fun _ _ _ _ => trivial), xw.call hX hS hFc hW hU, ⟨hW137.call hS hFc hW hU, hO.warm hW⟩⟩⟩ rfl rfl hl.1 rfl (lv_room (Nat.le_of_ble_eq_true rfl)) dL_law_454 ⟨(Nat.le_of_ble_eq_true rfl), (Nat.le_of_ble_eq_true rfl)⟩) hS (fun q _ h => hFc q h) hFc (fun q _ h => hFc q h) (fun E ce q9 u t H1 locs ht hvm hw hB hz1 hk1 hS hq9 hcv hcl => ?_) (fun r_38 u t H1 locs ht hvm hw hB hz1 hk1 hS => ?_)
  · have hK1 : va_K (dC, dI) vwCl _ s := hK
    exact vx_out (fun x h => (hno x h).elim) hlocks hq9 hcv hcl (fun t ht hA => ⟨(), trivial, hB, hS.F ht⟩) hS.2.2 (Nat.le_of_ble_eq_true rfl) (Nat.le_of_ble_eq_true rfl)
  · exact absurd hw.1 (by decide)
