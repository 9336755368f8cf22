/-! THE END: the claim is false at a start that it allows, od1's, with the script [5, 0, 0, 0]: the law throws there -/
set_option maxRecDepth 100000 in
theorem od1.lawo_0 : (wo_law.take 160).all (fun c => su_isCode c || c.before od1.args0 od1.about) = true := by decide +kernel
set_option maxRecDepth 100000 in
theorem od1.lawo_1 : ((wo_law.drop 160).take 160).all (fun c => su_isCode c || c.before od1.args0 od1.about) = true := by decide +kernel
set_option maxRecDepth 100000 in
theorem od1.lawo_2 : (((wo_law.drop 160).drop 160).take 160).all (fun c => su_isCode c || c.before od1.args0 od1.about) = true := by decide +kernel
set_option maxRecDepth 100000 in
theorem od1.lawo_3 : ((((wo_law.drop 160).drop 160).drop 160)).all (fun c => su_isCode c || c.before od1.args0 od1.about) = true := by decide +kernel
set_option maxRecDepth 100000 in
theorem od1.law_others : wo_law.all (fun c => su_isCode c || c.before od1.args0 od1.about) = true := (od1.su_all_split _ 160 wo_law od1.lawo_0 (od1.su_all_split _ 160 (wo_law.drop 160) od1.lawo_1 (od1.su_all_split _ 160 ((wo_law.drop 160).drop 160) od1.lawo_2 od1.lawo_3)))
set_option maxRecDepth 100000 in
theorem od1.own_code : (Cond.code od_y od_c 2 (some .char)).before od1.args0 od1.about = true := su_hand_word (m := ⟨40, start1.c40.methods.size⟩) (by decide +kernel) rfl (by decide +kernel) (by decide +kernel)
def od1.big : List Cond := Cond.code od_y od_c 2 (some .char) :: Cond.code x code maxLocals ret :: tables_1
set_option maxRecDepth 100000 in
theorem od1.law_at : wo_law.filter su_isCode = ([1, 54, 57, 62, 57, 112, 57, 192, 57, 119, 57, 270, 57, 276, 57, 343, 57, 1443, 57, 719, 724, 728, 732, 738, 742, 745, 696, 752, 748, 755, 458, 57, 490, 481, 484, 487, 1615, 1619, 738, 742, 0, 458, 57, 490, 519, 484, 487] : List Nat).filterMap (fun i => od1.big[i]?) := by rfl
set_option maxRecDepth 100000 in
theorem od1.law_codes : ∀ c ∈ wo_law.filter su_isCode, c.before od1.args0 od1.about = true := by
  intro c hc
  rw [od1.law_at] at hc
  obtain ⟨i, -, hi⟩ := List.mem_filterMap.mp hc
  rcases List.mem_cons.mp (List.mem_of_getElem? hi) with h1 | h1
  · rw [h1]; exact od1.own_code
  · exact od1.words c h1
theorem od1.law_words : ∀ c ∈ wo_law, c.before od1.args0 od1.about = true := su_words od1.law_others od1.law_codes
set_option maxRecDepth 100000 in
theorem od1.law_applies : (headSpec wo_law ({ frames := 12, cells := 240, slots := 16200, locals := 300 } : Jvm.Room)).appliesLoose yL_law od1.e0.platform od1.about = true :=
  (Spec.appliesLoose_iff (m := ⟨0, 0⟩) (args := od1.args0) (below := Lib.HandBits.below0) rfl).mpr ⟨rfl, rfl, rfl, by decide +kernel, by decide +kernel, by decide +kernel, launch0.hasRoom_least _ ({ frames := 12, cells := 240, slots := 16200, locals := 300 } : Jvm.Room) (by decide +kernel) (by decide +kernel) (by decide +kernel) (by decide +kernel) (by decide +kernel) (by decide +kernel), atoms_intro od1.law_words⟩
theorem od1.hA : ∀ a : Nat, a < od1.about.heap.size → ¬ va_A [] od1.about.heap.size a := fun a h q => q.elim (fun ⟨k, e, h⟩ => by simp at h) (fun h2 => Nat.not_le.mpr h h2)
set_option maxRecDepth 100000 in
theorem od1.known_0 : ∃ (cC : ClassId) (iS : Nat → Nat), u_Kn od1.about RJ4 TJ4 4 cC iS := by
  have h : (u_ws RJ4 TJ4 4).all (fun w => w.before od1.args0 od1.about) = true := by decide +kernel
  exact u_known (ws := u_ws RJ4 TJ4 4) (args := od1.args0) (n := 4) (fun w hw => List.all_eq_true.mp h w hw) (fun w hw => hw) (by decide +kernel)
set_option maxRecDepth 100000 in
theorem od1.known_1 : ∃ (cC : ClassId) (iS : Nat → Nat), u_Kn od1.about RJ6 TJ6 1 cC iS := by
  have h : (u_ws RJ6 TJ6 1).all (fun w => w.before od1.args0 od1.about) = true := by decide +kernel
  exact u_known (ws := u_ws RJ6 TJ6 1) (args := od1.args0) (n := 1) (fun w hw => List.all_eq_true.mp h w hw) (fun w hw => hw) (by decide +kernel)
set_option maxRecDepth 100000 in
theorem od1.known_2 : ∃ (cC : ClassId) (iS : Nat → Nat), u_Kn od1.about RJx35411 TJx35411 4 cC iS := by
  have h : (u_ws RJx35411 TJx35411 4).all (fun w => w.before od1.args0 od1.about) = true := by decide +kernel
  exact u_known (ws := u_ws RJx35411 TJx35411 4) (args := od1.args0) (n := 4) (fun w hw => List.all_eq_true.mp h w hw) (fun w hw => hw) (by decide +kernel)
set_option maxRecDepth 100000 in
theorem od1.known_3 : ∃ (cC : ClassId) (iS : Nat → Nat), u_Kn od1.about RJx4a65c TJx4a65c 3 cC iS := by
  have h : (u_ws RJx4a65c TJx4a65c 3).all (fun w => w.before od1.args0 od1.about) = true := by decide +kernel
  exact u_known (ws := u_ws RJx4a65c TJx4a65c 3) (args := od1.args0) (n := 3) (fun w hw => List.all_eq_true.mp h w hw) (fun w hw => hw) (by decide +kernel)
set_option maxRecDepth 100000 in
theorem od1.known_4 : ∃ (cC : ClassId) (iS : Nat → Nat), u_Kn od1.about RX0 TX0 4 cC iS := by
  have h : (u_ws RX0 TX0 4).all (fun w => w.before od1.args0 od1.about) = true := by decide +kernel
  exact u_known (ws := u_ws RX0 TX0 4) (args := od1.args0) (n := 4) (fun w hw => List.all_eq_true.mp h w hw) (fun w hw => hw) (by decide +kernel)
set_option maxRecDepth 100000 in
theorem od1.known_5 : ∃ (cC : ClassId) (iS : Nat → Nat), u_Kn od1.about RX1 TX1 8 cC iS := by
  have h : (u_ws RX1 TX1 8).all (fun w => w.before od1.args0 od1.about) = true := by decide +kernel
  exact u_known (ws := u_ws RX1 TX1 8) (args := od1.args0) (n := 8) (fun w hw => List.all_eq_true.mp h w hw) (fun w hw => hw) (by decide +kernel)
set_option maxRecDepth 100000 in
theorem od1.known_6 : ∃ (cC : ClassId) (iS : Nat → Nat), u_Kn od1.about RX2 TX2 11 cC iS := by
  have h : (u_ws RX2 TX2 11).all (fun w => w.before od1.args0 od1.about) = true := by decide +kernel
  exact u_known (ws := u_ws RX2 TX2 11) (args := od1.args0) (n := 11) (fun w hw => List.all_eq_true.mp h w hw) (fun w hw => hw) (by decide +kernel)
set_option maxRecDepth 100000 in
theorem od1.known_7 : ∃ (cC : ClassId) (iS : Nat → Nat), u_Kn od1.about RX3 TX3 14 cC iS := by
  have h : (u_ws RX3 TX3 14).all (fun w => w.before od1.args0 od1.about) = true := by decide +kernel
  exact u_known (ws := u_ws RX3 TX3 14) (args := od1.args0) (n := 14) (fun w hw => List.all_eq_true.mp h w hw) (fun w hw => hw) (by decide +kernel)
set_option maxRecDepth 100000 in
theorem od1.known_8 : ∃ (cC : ClassId) (iS : Nat → Nat), u_Kn od1.about RX5 TX5 9 cC iS := by
  have h : (u_ws RX5 TX5 9).all (fun w => w.before od1.args0 od1.about) = true := by decide +kernel
  exact u_known (ws := u_ws RX5 TX5 9) (args := od1.args0) (n := 9) (fun w hw => List.all_eq_true.mp h w hw) (fun w hw => hw) (by decide +kernel)
set_option maxRecDepth 100000 in
theorem od1.known_9 : ∃ (cC : ClassId) (iS : Nat → Nat), u_Kn od1.about RX6 TX6 7 cC iS := by
  have h : (u_ws RX6 TX6 7).all (fun w => w.before od1.args0 od1.about) = true := by decide +kernel
  exact u_known (ws := u_ws RX6 TX6 7) (args := od1.args0) (n := 7) (fun w hw => List.all_eq_true.mp h w hw) (fun w hw => hw) (by decide +kernel)
set_option maxRecDepth 100000 in
theorem od1.known_10 : ∃ (cC : ClassId) (iS : Nat → Nat), u_Kn od1.about RX7 TX7 9 cC iS := by
  have h : (u_ws RX7 TX7 9).all (fun w => w.before od1.args0 od1.about) = true := by decide +kernel
  exact u_known (ws := u_ws RX7 TX7 9) (args := od1.args0) (n := 9) (fun w hw => List.all_eq_true.mp h w hw) (fun w hw => hw) (by decide +kernel)
set_option maxRecDepth 100000 in
theorem od1.known_11 : ∃ (cC : ClassId) (iS : Nat → Nat), u_Kn od1.about RX8 TX8 9 cC iS := by
  have h : (u_ws RX8 TX8 9).all (fun w => w.before od1.args0 od1.about) = true := by decide +kernel
  exact u_known (ws := u_ws RX8 TX8 9) (args := od1.args0) (n := 9) (fun w hw => List.all_eq_true.mp h w hw) (fun w hw => hw) (by decide +kernel)
set_option maxRecDepth 100000 in
theorem od1.known_12 : ∃ (cC : ClassId) (iS : Nat → Nat), u_Kn od1.about RX10 TX10 4 cC iS := by
  have h : (u_ws RX10 TX10 4).all (fun w => w.before od1.args0 od1.about) = true := by decide +kernel
  exact u_known (ws := u_ws RX10 TX10 4) (args := od1.args0) (n := 4) (fun w hw => List.all_eq_true.mp h w hw) (fun w hw => hw) (by decide +kernel)
set_option maxRecDepth 100000 in
theorem od1.known_13 : ∃ (cC : ClassId) (iS : Nat → Nat), u_Kn od1.about RX11 TX11 7 cC iS := by
  have h : (u_ws RX11 TX11 7).all (fun w => w.before od1.args0 od1.about) = true := by decide +kernel
  exact u_known (ws := u_ws RX11 TX11 7) (args := od1.args0) (n := 7) (fun w hw => List.all_eq_true.mp h w hw) (fun w hw => hw) (by decide +kernel)
set_option maxRecDepth 100000 in
theorem od1.known_14 : ∃ (cC : ClassId) (iS : Nat → Nat), u_Kn od1.about RX12 TX12 9 cC iS := by
  have h : (u_ws RX12 TX12 9).all (fun w => w.before od1.args0 od1.about) = true := by decide +kernel
  exact u_known (ws := u_ws RX12 TX12 9) (args := od1.args0) (n := 9) (fun w hw => List.all_eq_true.mp h w hw) (fun w hw => hw) (by decide +kernel)
set_option maxRecDepth 100000 in
theorem od1.known_15 : ∃ (cC : ClassId) (iS : Nat → Nat), u_Kn od1.about RX13 TX13 4 cC iS := by
  have h : (u_ws RX13 TX13 4).all (fun w => w.before od1.args0 od1.about) = true := by decide +kernel
  exact u_known (ws := u_ws RX13 TX13 4) (args := od1.args0) (n := 4) (fun w hw => List.all_eq_true.mp h w hw) (fun w hw => hw) (by decide +kernel)
set_option maxRecDepth 100000 in
theorem od1.known_16 : ∃ (cC : ClassId) (iS : Nat → Nat), u_Kn od1.about RX14 TX14 8 cC iS := by
  have h : (u_ws RX14 TX14 8).all (fun w => w.before od1.args0 od1.about) = true := by decide +kernel
  exact u_known (ws := u_ws RX14 TX14 8) (args := od1.args0) (n := 8) (fun w hw => List.all_eq_true.mp h w hw) (fun w hw => hw) (by decide +kernel)
set_option maxRecDepth 100000 in
theorem od1.known_17 : ∃ (cC : ClassId) (iS : Nat → Nat), u_Kn od1.about RX15 TX15 16 cC iS := by
  have h : (u_ws RX15 TX15 16).all (fun w => w.before od1.args0 od1.about) = true := by decide +kernel
  exact u_known (ws := u_ws RX15 TX15 16) (args := od1.args0) (n := 16) (fun w hw => List.all_eq_true.mp h w hw) (fun w hw => hw) (by decide +kernel)
set_option maxRecDepth 100000 in
theorem od1.known_18 : ∃ (cC : ClassId) (iS : Nat → Nat), u_Kn od1.about RX16 TX16 7 cC iS := by
  have h : (u_ws RX16 TX16 7).all (fun w => w.before od1.args0 od1.about) = true := by decide +kernel
  exact u_known (ws := u_ws RX16 TX16 7) (args := od1.args0) (n := 7) (fun w hw => List.all_eq_true.mp h w hw) (fun w hw => hw) (by decide +kernel)
set_option maxRecDepth 100000 in
theorem od1.known_19 : ∃ (cC : ClassId) (iS : Nat → Nat), u_Kn od1.about RX17 TX17 3 cC iS := by
  have h : (u_ws RX17 TX17 3).all (fun w => w.before od1.args0 od1.about) = true := by decide +kernel
  exact u_known (ws := u_ws RX17 TX17 3) (args := od1.args0) (n := 3) (fun w hw => List.all_eq_true.mp h w hw) (fun w hw => hw) (by decide +kernel)
set_option maxRecDepth 100000 in
theorem od1.known_20 : ∃ (cC : ClassId) (iS : Nat → Nat), u_Kn od1.about RX18 TX18 18 cC iS := by
  have h : (u_ws RX18 TX18 18).all (fun w => w.before od1.args0 od1.about) = true := by decide +kernel
  exact u_known (ws := u_ws RX18 TX18 18) (args := od1.args0) (n := 18) (fun w hw => List.all_eq_true.mp h w hw) (fun w hw => hw) (by decide +kernel)
theorem od1.allKnown : ∃ (dC : Nat → ClassId) (dI : Nat → Nat → Nat), ∀ (k : Nat) (q : vw_C), vwCl[k]? = some q → u_Kn od1.about q.1 q.2.1 q.2.2 (dC k) (dI k) := by
  obtain ⟨c0, i0, h0⟩ := od1.known_0
  obtain ⟨c1, i1, h1⟩ := od1.known_1
  obtain ⟨c2, i2, h2⟩ := od1.known_2
  obtain ⟨c3, i3, h3⟩ := od1.known_3
  obtain ⟨c4, i4, h4⟩ := od1.known_4
  obtain ⟨c5, i5, h5⟩ := od1.known_5
  obtain ⟨c6, i6, h6⟩ := od1.known_6
  obtain ⟨c7, i7, h7⟩ := od1.known_7
  obtain ⟨c8, i8, h8⟩ := od1.known_8
  obtain ⟨c9, i9, h9⟩ := od1.known_9
  obtain ⟨c10, i10, h10⟩ := od1.known_10
  obtain ⟨c11, i11, h11⟩ := od1.known_11
  obtain ⟨c12, i12, h12⟩ := od1.known_12
  obtain ⟨c13, i13, h13⟩ := od1.known_13
  obtain ⟨c14, i14, h14⟩ := od1.known_14
  obtain ⟨c15, i15, h15⟩ := od1.known_15
  obtain ⟨c16, i16, h16⟩ := od1.known_16
  obtain ⟨c17, i17, h17⟩ := od1.known_17
  obtain ⟨c18, i18, h18⟩ := od1.known_18
  obtain ⟨c19, i19, h19⟩ := od1.known_19
  obtain ⟨c20, i20, h20⟩ := od1.known_20
  refine ⟨fun k => ([c0, c1, c2, c3, c4, c5, c6, c7, c8, c9, c10, c11, c12, c13, c14, c15, c16, c17, c18, c19, c20] : List ClassId).getD k c0, fun k => ([i0, i1, i2, i3, i4, i5, i6, i7, i8, i9, i10, i11, i12, i13, i14, i15, i16, i17, i18, i19, i20] : List (Nat → Nat)).getD k i0, ?_⟩
  intro k q hq
  match k, hq with
  | 0, hq => cases hq; exact h0
  | 1, hq => cases hq; exact h1
  | 2, hq => cases hq; exact h2
  | 3, hq => cases hq; exact h3
  | 4, hq => cases hq; exact h4
  | 5, hq => cases hq; exact h5
  | 6, hq => cases hq; exact h6
  | 7, hq => cases hq; exact h7
  | 8, hq => cases hq; exact h8
  | 9, hq => cases hq; exact h9
  | 10, hq => cases hq; exact h10
  | 11, hq => cases hq; exact h11
  | 12, hq => cases hq; exact h12
  | 13, hq => cases hq; exact h13
  | 14, hq => cases hq; exact h14
  | 15, hq => cases hq; exact h15
  | 16, hq => cases hq; exact h16
  | 17, hq => cases hq; exact h17
  | 18, hq => cases hq; exact h18
  | 19, hq => cases hq; exact h19
  | 20, hq => cases hq; exact h20
  | k + 21, hq => simp [vwCl] at hq
set_option maxRecDepth 100000 in
theorem od1.xw : xw (va_A [] od1.about.heap.size) od1.about od1.about.heap := by
  refine ⟨⟨vx_Zqof (args := #[]) (by decide +kernel) (by decide +kernel) (by decide +kernel) od1.hA, vx_Zqof (args := #[]) (by decide +kernel) (by decide +kernel) (by decide +kernel) od1.hA⟩, ⟨?_, ?_⟩, ?_⟩
  · have h : (xw_E.all fun E => (Cond.castable E E).before #[] od1.about) = true := by decide +kernel
    exact fun E hE => List.all_eq_true.mp h E hE
  · have h : ((xw_N ++ [Bundle.tN]).all fun n => (Cond.declares (Bundle.initS n)).before #[] od1.about) = true := by decide +kernel
    exact fun n hn => List.all_eq_true.mp h n hn
  · have h : (xw_T.all fun q => (Cond.stringRef RX11 q.1 q.2).before #[] od1.about && (match (Term.string RX11 q.1).eval #[] od1.about none [] od1.about with | some (.ref _) => true | _ => false)) = true := by decide +kernel
    intro q hq
    obtain ⟨h1, h2⟩ := Bool.and_eq_true_iff.mp (List.all_eq_true.mp h q hq)
    split at h2
    · rename_i a ha
      exact ⟨a, h1, ha⟩
    · exact absurd h2 (by decide)
set_option maxRecDepth 100000 in
theorem od1.ref (own : String) (k : Nat) (tx : String) (h : ((Cond.stringRef own k tx).before #[] od1.about && (match (Term.string own k).eval #[] od1.about none [] od1.about with | some (.ref _) => true | _ => false)) = true) : ∃ a : Nat, vk_R own k tx a od1.about := by
  obtain ⟨h1, h2⟩ := Bool.and_eq_true_iff.mp h
  split at h2
  · rename_i a ha
    exact ⟨a, h1, ha⟩
  · exact absurd h2 (by decide)
set_option maxRecDepth 100000 in
theorem od1.sW_RX11 : sW RX11 176 (va_A [] od1.about.heap.size) od1.about od1.about.heap := by
  obtain ⟨a, ha⟩ := od1.ref RX11 176 "-~!*&idID" (by decide +kernel)
  obtain ⟨v, hv, hT⟩ := va_Tof (args := #[]) (s := od1.about) (tm := .field (.string RX11 176) "java/lang/String" "value" "[B") (ty := .byte) (N := 9) (f := fun j => .int (sb_9.getD j 0)) (by decide) (by decide +kernel) (by decide +kernel) (by
    have h : ((List.range 9).all fun j => decide ((Term.elem (.field (.string RX11 176) "java/lang/String" "value" "[B") (.int (Int32.ofNat j))).eval #[] od1.about none [] od1.about = some (.int (sb_9.getD j 0)))) = true := by decide +kernel
    exact fun j hj => of_decide_eq_true (List.all_eq_true.mp h j (List.mem_range.mpr hj))) od1.hA
  exact ⟨a, v, ha, va_Zof (args := #[]) (by decide +kernel) (by decide +kernel) (by decide +kernel) od1.hA, va_Oof (args := #[]) (t := .string RX11 176) (by decide +kernel) ha.2 od1.hA, vk_OFof (args := #[]) (t := .string RX11 176) ha.2 (by decide +kernel) od1.hA, vk_OFof (args := #[]) (t := .string RX11 176) ha.2 hv od1.hA, hT⟩
set_option maxRecDepth 100000 in
theorem od1.sW_RX18 : sW RX18 137 (va_A [] od1.about.heap.size) od1.about od1.about.heap := by
  obtain ⟨a, ha⟩ := od1.ref RX18 137 "-~!*&idID" (by decide +kernel)
  obtain ⟨v, hv, hT⟩ := va_Tof (args := #[]) (s := od1.about) (tm := .field (.string RX18 137) "java/lang/String" "value" "[B") (ty := .byte) (N := 9) (f := fun j => .int (sb_9.getD j 0)) (by decide) (by decide +kernel) (by decide +kernel) (by
    have h : ((List.range 9).all fun j => decide ((Term.elem (.field (.string RX18 137) "java/lang/String" "value" "[B") (.int (Int32.ofNat j))).eval #[] od1.about none [] od1.about = some (.int (sb_9.getD j 0)))) = true := by decide +kernel
    exact fun j hj => of_decide_eq_true (List.all_eq_true.mp h j (List.mem_range.mpr hj))) od1.hA
  exact ⟨a, v, ha, va_Zof (args := #[]) (by decide +kernel) (by decide +kernel) (by decide +kernel) od1.hA, va_Oof (args := #[]) (t := .string RX18 137) (by decide +kernel) ha.2 od1.hA, vk_OFof (args := #[]) (t := .string RX18 137) ha.2 (by decide +kernel) od1.hA, vk_OFof (args := #[]) (t := .string RX18 137) ha.2 hv od1.hA, hT⟩
theorem od1.isNw {w : Cond} (h : w.before #[] od1.about = true) : va_Nw w od1.about := h
theorem od1.isAO {C : String} (h : (Cond.arrayOver (.object C)).before #[] od1.about = true) : va_AO C od1.about := h
set_option maxRecDepth 100000 in
theorem od1.nw : nw od1.about := ⟨⟨od1.isNw (by decide +kernel), od1.isNw (by decide +kernel), od1.isNw (by decide +kernel), od1.isNw (by decide +kernel)⟩, od1.isAO (by decide +kernel), od1.isAO (by decide +kernel), od1.isAO (by decide +kernel), od1.isAO (by decide +kernel), od1.isAO (by decide +kernel)⟩
set_option maxRecDepth 100000 in
theorem od1.nm : nm od1.about := ⟨od1.isAO (by decide +kernel), od1.isAO (by decide +kernel)⟩
set_option maxRecDepth 100000 in
theorem od1.od : od od1.about := by
  refine ⟨⟨40, by decide +kernel, ?_⟩, ⟨by decide +kernel, by decide +kernel, by decide +kernel, by decide +kernel, by decide +kernel⟩, ⟨by decide +kernel, by decide +kernel, by decide +kernel, by decide +kernel, by decide +kernel⟩, od1.ref RJ0 1163 "no such node" (by decide +kernel)⟩
  exact ⟨od1.c40, by rfl, by rfl⟩
set_option maxRecDepth 100000 in
theorem od1.script : 0 < od1.about.heap.size ∧ va_X 0 4 od_xs od1.about od1.about.heap := by
  have hcell : ∃ (scr : Cell), od1.about.heap[0]? = some scr ∧ scr.slots = #[.int 5, .int 0, .int 0, .int 0] ∧ scr.vm ≠ .unknown := ⟨_, rfl, rfl, by decide⟩
  have harr : (Cond.arrayOf (.arg 0) .int).before od1.args0 od1.about = true := by decide +kernel
  obtain ⟨scr, h1, h2, h3⟩ := hcell
  obtain ⟨hof, -⟩ := Cond.arrayOf_spec harr (show (Term.arg 0).eval od1.args0 od1.about none [] od1.about = some (.ref 0) from rfl) h1
  refine ⟨(Array.getElem?_eq_some_iff.mp h1).1, scr, h1, hof, h3, by rw [h2]; rfl, fun j hj => ?_⟩
  rw [h2]
  match j, hj with
  | 0, _ => rfl
  | 1, _ => rfl
  | 2, _ => rfl
  | 3, _ => rfl
/-- the machine comes to the law's end at od1, and this end is none of those that the claim allows -/
theorem whole_end : ∃ (n : Nat) (o : Outcome), (∀ k, k < n → Within (stepsAlone od1.p0.tables od1.e0 k od1.about) Lib.HandBits.below0) ∧ (stepsAlone od1.p0.tables od1.e0 n od1.about).status = .running ∧ Ended (stepsAlone od1.p0.tables od1.e0 n od1.about) Lib.HandBits.below0 o ∧ ∃ q : Addr, o = .threw q := by
  obtain ⟨hL, hW, hadm, hleast, hcas, hclk, hf, hfit, hheap, happ, hcalls, hrest, hpre⟩ := od1.atStart
  obtain ⟨dC, dI, hKc⟩ := od1.allKnown
  obtain ⟨n, o, h1, h2, h3, h4⟩ := o_law launch0 (by decide) dC dI 0 od1.about.heap.size od1.p0 od1.e0 hadm hcas hclk od1.about ⟨0, 0⟩ od1.args0 Lib.HandBits.below0 hf od1.law_applies
    ⟨rfl, rfl, fun k q h => by simp at h, ⟨hKc, fun k q h => by simp at h⟩, ⟨fun i j p q h => by simp at h, fun k q h => by simp at h⟩, od1.xw, od1.script, od1.sW_RX11, od1.sW_RX18, od1.nw, od1.nm, od1.od⟩ trivial
  refine ⟨n, o, h1, h2, h3, ?_⟩
  rcases h4 with ⟨⟨⟨r, u, -, hp, -⟩, -⟩, -⟩ | ⟨q, hq, -⟩
  · exact absurd hp.1 (by decide)
  · exact ⟨q, hq⟩
/-- THE CLAIM IS FALSE -/
theorem whole_false : ¬ Claimed_1_1 := by
  intro h
  obtain ⟨hL, hW, hadm, hleast, hcas, hclk, hf, hfit, hheap, happ, hcalls, hrest, hpre⟩ := od1.atStart
  obtain ⟨n, o, h1, h2, h3, h4⟩ := h launch0 rfl hL hW od1.p0 od1.e0 hadm hcas hclk od1.about ⟨0, 0⟩ od1.args0 Lib.HandBits.below0 hf hfit hheap happ ⟨hcalls, hrest, hpre⟩
  obtain ⟨n', o', k1, k2, k3, q, rfl⟩ := whole_end
  have hn : n = n' := by
    rcases Nat.lt_trichotomy n n' with hlt | he | hlt
    · exact absurd (k1 n hlt) h3.not_within
    · exact he
    · exact absurd (h1 n' hlt) k3.not_within
  subst hn
  have ho := Ended.outcome_unique h3 k3
  subst ho
  obtain ⟨v, hv⟩ := h4.2.1.1
  cases hv
theorem whole_no_vc : ¬ (Claimed_1_1 ∧ Claimed_1_2) := fun h => whole_false h.1
/-- the statement's own refuted forms: a start that it allows, an end of the law there, and that end is not the one that is owed -/
theorem whole_falls_1 : RefutedClaimed_1_1 := by
  obtain ⟨n, o, k1, k2, k3, q, rfl⟩ := whole_end
  exact ⟨launch0, od1.p0, od1.e0, od1.about, ⟨0, 0⟩, od1.args0, Lib.HandBits.below0, rfl, od1.atStart, n, _, k1, k2, k3, fun h => Bool.noConfusion (show false = true from h.1)⟩
theorem whole_falls_2 : RefutedClaimed_1_2 := by
  obtain ⟨n, o, k1, k2, k3, q, rfl⟩ := whole_end
  refine ⟨launch0, od1.p0, od1.e0, od1.about, ⟨0, 0⟩, od1.args0, Lib.HandBits.below0, rfl, od1.atStart, n, _, k1, k2, k3, fun h => ?_⟩
  have h5 : Cond.after limb_1_2 od1.args0 od1.about (Outcome.threw q) (stepsAlone od1.p0.tables od1.e0 n od1.about) = true := h.1
  have h6 : Cond.after limb_1_2 od1.args0 od1.about (Outcome.threw q) (stepsAlone od1.p0.tables od1.e0 n od1.about) = false := rfl
  rw [h6] at h5
  exact Bool.noConfusion h5
