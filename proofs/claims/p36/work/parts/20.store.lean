/-! a store: cells by number ('f i' is what lies in cell i), 'ad i' its address; all that a run knows of its heap -/
abbrev gS : Type := Nat → Option va_E
def gs_up (f : gS) (i : Nat) (e : va_E) : gS := fun j => if j = i then some e else f j
theorem gs_self {f : gS} {i : Nat} {e : va_E} : gs_up f i e i = some e := by simp [gs_up]
theorem gs_ne {f : gS} {i j : Nat} {e : va_E} (h : j ≠ i) : gs_up f i e j = f j := by simp [gs_up, h]
theorem gs_sup {f : gS} {i j : Nat} {e e0 : va_E} (hi : f i = some e0) (h : gs_up f i e j ≠ none) : f j ≠ none := by
  by_cases hj : j = i
  · subst hj; rw [hi]; exact fun h => nomatch h
  · rw [gs_ne hj] at h; exact h
/-- inside the store a reference is the number of a cell; 'gs_v', 'gs_e': as the heap has it -/
def gs_v (ad : Nat → Nat) : Value → Value
  | .ref i => .ref (ad i)
  | v => v
def gs_e (ad : Nat → Nat) : va_E → va_E
  | .inl (c, n, .inr (.inr (.inr (.inr g)))) => .inl (c, n, .inr (.inr (.inr (.inr (fun k => (g k).map ad)))))
  | .inl x => .inl x
  | .inr (c, vs) => .inr (c, vs.map (gs_v ad))
/-- what a cell's contents name is in the store -/
def gs_in (f : gS) : va_E → Prop
  | .inl (_, _, .inr (.inr (.inr (.inr g)))) => ∀ k j : Nat, g k = some j → f j ≠ none
  | .inl _ => True
  | .inr (_, vs) => ∀ j : Nat, Value.ref j ∈ vs → f j ≠ none
theorem gs_in_to {f g : gS} (h : ∀ i : Nat, f i ≠ none → g i ≠ none) {e : va_E} (he : gs_in f e) : gs_in g e := by
  rcases e with ⟨c, n, x⟩ | ⟨c, vs⟩
  · rcases x with x | x | x | x | x
    · trivial
    · trivial
    · trivial
    · trivial
    · exact fun k j hk => h j (he k j hk)
  · exact fun j hj => h j (he j hj)
theorem gs_some {f : gS} {i : Nat} {e : va_E} (h : f i = some e) : f i ≠ none := by rw [h]; exact fun h => nomatch h
theorem gs_up_some {f : gS} {i j : Nat} {e : va_E} (h : f j ≠ none) : gs_up f i e j ≠ none := by
  by_cases hj : j = i
  · subst hj; rw [gs_self]; exact fun h => nomatch h
  · rw [gs_ne hj]; exact h
theorem gs_e_up {f : gS} {ad : Nat → Nat} {i q : Nat} (hi : f i = none) {e : va_E} (he : gs_in f e) : gs_e (va_up ad i q) e = gs_e ad e := by
  rcases e with ⟨c, n, x⟩ | ⟨c, vs⟩
  · rcases x with x | x | x | x | x
    · rfl
    · rfl
    · rfl
    · rfl
    · have hx : (fun k => (x k).map (va_up ad i q)) = (fun k => (x k).map ad) := by
        funext k
        cases hk : x k with
        | none => rfl
        | some j =>
          have hj : j ≠ i := fun h => he k j hk (by rw [h]; exact hi)
          show some (va_up ad i q j) = some (ad j)
          rw [va_up_ne _ _ hj]
      show Sum.inl (c, n, _) = Sum.inl (c, n, _)
      rw [hx]
  · have hv : vs.map (gs_v (va_up ad i q)) = vs.map (gs_v ad) := by
      apply List.map_congr_left
      intro v hv
      cases v with
      | ref j =>
        have hj : j ≠ i := fun h => he j hv (by rw [h]; exact hi)
        show Value.ref (va_up ad i q j) = Value.ref (ad j)
        rw [va_up_ne _ _ hj]
      | _ => rfl
    show Sum.inr (c, _) = Sum.inr (c, _)
    rw [hv]
theorem gs_in_set {f : gS} {ci k : Nat} {fs : List Value} {v : Value} (h : gs_in f (.inr (ci, fs))) (hv : ∀ j : Nat, v = .ref j → f j ≠ none) : gs_in f (.inr (ci, fs.set k v)) := fun j hj => by
  rcases List.mem_or_eq_of_mem_set hj with h1 | h1
  · exact h j h1
  · exact hv j h1.symm
theorem gs_in_aset {f : gS} {cA : ClassId} {n k : Nat} {g : Nat → Option Nat} {v : Option Nat} (h : gs_in f (.inl (cA, n, .inr (.inr (.inr (.inr g)))))) (hv : ∀ j : Nat, v = some j → f j ≠ none) : gs_in f (.inl (cA, n, .inr (.inr (.inr (.inr (va_up g k v)))))) := fun x j hj => by
  by_cases hx : x = k
  · subst hx; rw [va_up_self] at hj; exact hv j hj
  · rw [va_up_ne _ _ hx] at hj; exact h x j hj
theorem gs_q_up {ad : Nat → Nat} {g : Nat → Option Nat} {k : Nat} {v : Option Nat} : va_up (fun k => (g k).map ad) k (v.map ad) = fun x => (va_up g k v x).map ad := by
  funext x
  by_cases hx : x = k
  · subst hx; rw [va_up_self, va_up_self]
  · rw [va_up_ne _ _ hx, va_up_ne _ _ hx]
theorem gs_v_rf {ad : Nat → Nat} {o : Option Nat} : gs_v ad (va_rf o) = va_rf (o.map ad) := by cases o <;> rfl
def gs_l (L : List Nat) (ad : Nat → Nat) (f : gS) : va_W := L.filterMap (fun i => (f i).map (fun e => (ad i, gs_e ad e)))
def gs_ok (D : va_G) (cl : List vw_C) (A : Nat → Prop) (ad : Nat → Nat) (f : gS) (H : Heap) : Prop := (∀ (i : Nat) (e : va_E), f i = some e → va_at D cl (ad i, gs_e ad e) H) ∧ (∀ i j : Nat, f i ≠ none → f j ≠ none → ad i = ad j → i = j) ∧ (∀ i : Nat, f i ≠ none → A (ad i)) ∧ (∃ L : List Nat, L.Nodup ∧ ∀ i : Nat, f i ≠ none → i ∈ L) ∧ ∀ (i : Nat) (e : va_E), f i = some e → gs_in f e
/-- the cells that a method may change: those of the store, and those that it makes -/
def gs_A (ad : Nat → Nat) (f : gS) (sz : Nat) : Nat → Prop := fun q => (∃ i : Nat, f i ≠ none ∧ ad i = q) ∨ sz ≤ q
theorem gs_l_get {L : List Nat} {ad : Nat → Nat} {f : gS} {i : Nat} {e : va_E} (hi : i ∈ L) (he : f i = some e) : ∃ k : Nat, (gs_l L ad f)[k]? = some (ad i, gs_e ad e) := by
  apply List.getElem?_of_mem
  exact List.mem_filterMap.mpr ⟨i, hi, by rw [he]; rfl⟩
theorem gs_l_of {L : List Nat} {ad : Nat → Nat} {f : gS} {k : Nat} {q : Nat × va_E} (h : (gs_l L ad f)[k]? = some q) : ∃ (i : Nat) (e : va_E), i ∈ L ∧ f i = some e ∧ q = (ad i, gs_e ad e) := by
  obtain ⟨i, hi, h2⟩ := List.mem_filterMap.mp (List.mem_of_getElem? h)
  cases hf : f i with
  | none => rw [hf] at h2; cases h2
  | some e => rw [hf] at h2; exact ⟨i, e, hi, hf, (Option.some.inj h2).symm⟩
theorem gs_l_inj {ad : Nat → Nat} {f : gS} (hi : ∀ i j : Nat, f i ≠ none → f j ≠ none → ad i = ad j → i = j) : ∀ (L : List Nat), L.Nodup → ∀ (i j : Nat) (p q : Nat × va_E), (gs_l L ad f)[i]? = some p → (gs_l L ad f)[j]? = some q → p.1 = q.1 → i = j
  | [], _, i, j, p, q, h1, _, _ => by simp [gs_l] at h1
  | a :: L, hn, i, j, p, q, h1, h2, h3 => by
    obtain ⟨ha, hL⟩ := List.nodup_cons.mp hn
    cases hf : f a with
    | none =>
      have e1 : gs_l (a :: L) ad f = gs_l L ad f := by simp [gs_l, hf]
      rw [e1] at h1 h2
      exact gs_l_inj hi L hL i j p q h1 h2 h3
    | some e =>
      have e1 : gs_l (a :: L) ad f = (ad a, gs_e ad e) :: gs_l L ad f := by simp [gs_l, hf]
      rw [e1] at h1 h2
      have fa : f a ≠ none := by rw [hf]; exact fun h => nomatch h
      cases i with
      | zero =>
        cases j with
        | zero => rfl
        | succ j =>
          rw [List.getElem?_cons_zero] at h1
          rw [List.getElem?_cons_succ] at h2
          obtain ⟨b, e2, hb, hfb, rfl⟩ := gs_l_of h2
          cases h1
          exact absurd hb (by rw [← hi a b fa (by rw [hfb]; exact fun h => nomatch h) h3]; exact ha)
      | succ i =>
        rw [List.getElem?_cons_succ] at h1
        cases j with
        | zero =>
          rw [List.getElem?_cons_zero] at h2
          obtain ⟨b, e2, hb, hfb, rfl⟩ := gs_l_of h1
          cases h2
          exact absurd hb (by rw [hi b a (by rw [hfb]; exact fun h => nomatch h) fa h3]; exact ha)
        | succ j =>
          rw [List.getElem?_cons_succ] at h2
          rw [gs_l_inj hi L hL i j p q h1 h2 h3]
section GSO
variable {D : va_G} {cl : List vw_C} {A B : Nat → Prop} {ad : Nat → Nat} {f : gS} {H H1 : Heap}
theorem gs_ok.P (h : gs_ok D cl A ad f H) (L : List Nat) : va_P D cl (gs_l L ad f) H := fun k q hk => by
  obtain ⟨i, e, -, he, rfl⟩ := gs_l_of hk
  exact h.1 i e he
theorem gs_ok.D (h : gs_ok D cl A ad f H) {L : List Nat} (hn : L.Nodup) : va_D A (gs_l L ad f) := ⟨gs_l_inj h.2.1 L hn, fun k q hk => by
  obtain ⟨i, e, -, he, rfl⟩ := gs_l_of hk
  exact h.2.2.1 i (by rw [he]; exact fun h => nomatch h)⟩
theorem gs_ok.one (h : gs_ok D cl A ad f H) {i : Nat} {e : va_E} (he : f i = some e) : va_P D cl [(ad i, gs_e ad e)] H := fun k q hk => by
  match k, hk with
  | 0, hk => cases hk; exact h.1 i e he
theorem gs_ok.lt (h : gs_ok D cl A ad f H) {i : Nat} {e : va_E} (he : f i = some e) : ad i < H.size := (h.1 i e he).lt
theorem gs_ok.inj (h : gs_ok D cl A ad f H) {i j : Nat} {e e' : va_E} (he : f i = some e) (he' : f j = some e') (hij : ad i = ad j) : i = j := h.2.1 i j (by rw [he]; exact fun h => nomatch h) (by rw [he']; exact fun h => nomatch h) hij
theorem gs_ok.weaken (h : gs_ok D cl A ad f H) (hAB : ∀ q : Nat, A q → B q) : gs_ok D cl B ad f H := ⟨h.1, h.2.1, fun i hi => hAB _ (h.2.2.1 i hi), h.2.2.2⟩
theorem gs_ok.self (h : gs_ok D cl A ad f H) {sz : Nat} : gs_ok D cl (gs_A ad f sz) ad f H := ⟨h.1, h.2.1, fun i hi => Or.inl ⟨i, hi, rfl⟩, h.2.2.2⟩
theorem gs_ok.kept (h : gs_ok D cl A ad f H) (hq : ∀ (i : Nat) (e : va_E), f i = some e → H1[ad i]? = H[ad i]?) : gs_ok D cl A ad f H1 := ⟨fun i e he => (h.1 i e he).kept (hq i e he), h.2⟩
theorem gs_ok.set (h : gs_ok D cl A ad f H) {i k : Nat} {e0 e : va_E} {e1 : va_E} (hi : f i = some e0) {L : List Nat} (hL : ∀ i : Nat, f i ≠ none → i ∈ L) (hk : (gs_l L ad f)[k]? = some (ad i, gs_e ad e0)) (he1 : gs_e ad e = e1) (hin : gs_in f e) (hP : va_P D cl ((gs_l L ad f).set k (ad i, e1)) H1) : gs_ok D cl A ad (gs_up f i e) H1 := by
  subst he1
  have hlt := (List.getElem?_eq_some_iff.mp hk).1
  obtain ⟨L0, hn, hL0⟩ := h.2.2.2.1
  refine ⟨fun j x hx => ?_, fun a b ha hb hab => h.2.1 a b (gs_sup hi ha) (gs_sup hi hb) hab, fun j hj => h.2.2.1 j (gs_sup hi hj), ⟨L0, hn, fun j hj => hL0 j (gs_sup hi hj)⟩, fun j x hx => ?_⟩
  · by_cases hji : j = i
    · subst hji
      rw [gs_self] at hx
      cases hx
      exact hP k _ (by rw [List.getElem?_set_self hlt])
    · rw [gs_ne hji] at hx
      obtain ⟨k2, h2⟩ := gs_l_get (ad := ad) (hL j (gs_some hx)) hx
      have hkk : k ≠ k2 := by
        intro hh
        subst hh
        rw [hk] at h2
        exact hji (h.inj hx hi (congrArg Prod.fst (Option.some.inj h2)).symm)
      exact hP k2 _ (by rw [List.getElem?_set_ne hkk]; exact h2)
  · by_cases hji : j = i
    · subst hji
      rw [gs_self] at hx
      cases hx
      exact gs_in_to (fun _ => gs_up_some) hin
    · rw [gs_ne hji] at hx
      exact gs_in_to (fun _ => gs_up_some) (h.2.2.2.2 j x hx)
theorem gs_ok.push (h : gs_ok D cl A ad f H) {i q : Nat} {e e1 : va_E} (hi : f i = none) {L : List Nat} (hL : ∀ i : Nat, f i ≠ none → i ∈ L) (he1 : gs_e ad e = e1) (hin : gs_in f e) (hP : va_P D cl (gs_l L ad f ++ [(q, e1)]) H1) (hD : va_D A (gs_l L ad f ++ [(q, e1)])) : gs_ok D cl A (va_up ad i q) (gs_up f i e) H1 := by
  subst he1
  obtain ⟨L0, hn, hL0⟩ := h.2.2.2.1
  have hlast : (gs_l L ad f ++ [(q, gs_e ad e)])[(gs_l L ad f).length]? = some (q, gs_e ad e) := by rw [List.getElem?_append_right (Nat.le_refl _), Nat.sub_self]; rfl
  have hpos : ∀ (j : Nat) (x : va_E), f j = some x → ∃ k : Nat, k < (gs_l L ad f).length ∧ (gs_l L ad f ++ [(q, gs_e ad e)])[k]? = some (ad j, gs_e ad x) := fun j x hx => by
    obtain ⟨k, hk⟩ := gs_l_get (ad := ad) (hL j (gs_some hx)) hx
    have hl := (List.getElem?_eq_some_iff.mp hk).1
    exact ⟨k, hl, by rw [List.getElem?_append_left hl]; exact hk⟩
  have fresh : ∀ (j : Nat) (x : va_E), f j = some x → ad j ≠ q := fun j x hx hq => by
    obtain ⟨k, hl, hk⟩ := hpos j x hx
    have := hD.1 k _ _ _ hk hlast hq
    omega
  have up : ∀ j : Nat, gs_up f i e j ≠ none → (j = i) ∨ (j ≠ i ∧ ∃ x, f j = some x) := fun j hj => by
    by_cases hji : j = i
    · exact Or.inl hji
    · rw [gs_ne hji] at hj
      cases hf : f j with
      | none => exact absurd hf hj
      | some x => exact Or.inr ⟨hji, x, rfl⟩
  refine ⟨fun j x hx => ?_, fun a b ha hb hab => ?_, fun j hj => ?_, ⟨if i ∈ L0 then L0 else i :: L0, ?_, fun j hj => ?_⟩, fun j x hx => ?_⟩
  · by_cases hji : j = i
    · subst hji
      rw [gs_self] at hx
      cases hx
      rw [va_up_self, gs_e_up hi hin]
      exact hP _ _ hlast
    · rw [gs_ne hji] at hx
      obtain ⟨k, -, hk⟩ := hpos j x hx
      rw [va_up_ne _ _ hji, gs_e_up hi (h.2.2.2.2 j x hx)]
      exact hP k _ hk
  · rcases up a ha with ha1 | ⟨ha1, x, hx⟩ <;> rcases up b hb with hb1 | ⟨hb1, y, hy⟩
    · rw [ha1, hb1]
    · rw [ha1, va_up_self, va_up_ne _ _ hb1] at hab
      exact absurd hab.symm (fresh b y hy)
    · rw [hb1, va_up_self, va_up_ne _ _ ha1] at hab
      exact absurd hab (fresh a x hx)
    · rw [va_up_ne _ _ ha1, va_up_ne _ _ hb1] at hab
      exact h.inj hx hy hab
  · rcases up j hj with hj1 | ⟨hj1, x, hx⟩
    · rw [hj1, va_up_self]
      exact hD.2 _ _ hlast
    · rw [va_up_ne _ _ hj1]
      exact h.2.2.1 j (gs_some hx)
  · by_cases hm : i ∈ L0
    · rw [if_pos hm]; exact hn
    · rw [if_neg hm]; exact List.nodup_cons.mpr ⟨hm, hn⟩
  · rcases up j hj with hj1 | ⟨hj1, x, hx⟩
    · by_cases hm : i ∈ L0
      · rw [if_pos hm, hj1]; exact hm
      · rw [if_neg hm, hj1]; exact List.mem_cons_self
    · have hj0 := hL0 j (gs_some hx)
      by_cases hm : i ∈ L0
      · rw [if_pos hm]; exact hj0
      · rw [if_neg hm]; exact List.mem_cons_of_mem _ hj0
  · by_cases hji : j = i
    · subst hji
      rw [gs_self] at hx
      cases hx
      exact gs_in_to (fun _ => gs_up_some) hin
    · rw [gs_ne hji] at hx
      exact gs_in_to (fun _ => gs_up_some) (h.2.2.2.2 j x hx)
/-- what a call may change is what the caller may change -/
theorem gs_free {A0 : Nat → Prop} {H0 : Heap} {locs : List Loc} (hG : gs_ok D cl A0 ad f H) (hS : va_S A0 H0 H locs) (hA : ∀ q : Nat, H0.size ≤ q → A0 q) : ∀ q : Nat, gs_A ad f H.size q → A0 q := by
  intro q h
  rcases h with ⟨i, hi, rfl⟩ | h
  · exact hG.2.2.1 i hi
  · exact hA q (Nat.le_trans hS.1 h)
end GSO
section GSR
variable {p : Program} {l : Launch} {e : Env} {R : Room} {s : State} {m : MethodId} {args : Array Value} {below : List Frame} {meth : Method} {c : Code} {H : Heap} {locs : List Loc} {cells slots : Nat} {Q : State → Prop}
variable {cc : ByteArray} {pc : Nat} {ls : Array Slot} {rest : List Value} {D : va_G} {cl : List vw_C} {A : Nat → Prop} {tys : List (ClassId × FieldType)} {H0 : Heap} {ad : Nat → Nat} {f : gS}
theorem gs_get (hexec : p.tables.exec = Jvm.exec) (hb : c.code = cc) {own ref C : String} {T : u_T} {N ci index : Nat} {Ts : List Cond} (hts : ∀ w ∈ Ts, w.before args s = true) (hin : ∀ w ∈ u_ws C T N, w ∈ Ts) (hown : s.vm.findClass own = some m.cls) (hK : va_K D cl tys s) (hG : gs_ok D cl A ad f H) {i : Nat} {fs : List Value} (he : f i = some (.inr (ci, fs))) (hc : cl[ci]? = some (C, T, N)) (k : Nat) (hk : k < N) (hlink : (Cond.fieldLink own index ref (T k).2.1 (T k).2.2.1).before args s = true) (hsame : ∀ x, s.fieldFound? (T k).1 (T k).2.1 (T k).2.2.1 = some x → s.fieldFound? ref (T k).2.1 (T k).2.2.1 = some x) {v v1 : Value} (hv : fs[k]? = some v) (hv1 : gs_v ad v = v1) (hdg : decode cc pc = .ok (.getfield index, 3))
    (kk : W p l e R s m args below meth c H locs cells slots Q (F0 m (pc + 3) ls (v1 :: rest))) : W p l e R s m args below meth c H locs cells slots Q (F0 m pc ls (.ref (ad i) :: rest)) :=
  va_get hexec hb hts hin hown hK (hG.one he) 0 rfl hc k hk hlink hsame (by rw [List.getElem?_map, hv, ← hv1]; rfl) hdg kk
theorem gs_getN (hexec : p.tables.exec = Jvm.exec) (hb : c.code = cc) {own ref C host : String} {T : u_T} {N ci index : Nat} {Ts : List Cond} (hts : ∀ w ∈ Ts, w.before args s = true) (hin : ∀ w ∈ u_ws C T N, w ∈ Ts) (hown : s.vm.findClass own = some m.cls) (hK : va_K D cl tys s) (hG : gs_ok D cl A ad f H) {i : Nat} {fs : List Value} (he : f i = some (.inr (ci, fs))) (hc : cl[ci]? = some (C, T, N)) (k : Nat) (hk : k < N) (hlink : (Cond.fieldLinkNest own index ref (T k).2.1 (T k).2.2.1 host).before args s = true) (hsame : ∀ x, s.fieldFound? (T k).1 (T k).2.1 (T k).2.2.1 = some x → s.fieldFound? ref (T k).2.1 (T k).2.2.1 = some x) {v v1 : Value} (hv : fs[k]? = some v) (hv1 : gs_v ad v = v1) (hdg : decode cc pc = .ok (.getfield index, 3))
    (kk : W p l e R s m args below meth c H locs cells slots Q (F0 m (pc + 3) ls (v1 :: rest))) : W p l e R s m args below meth c H locs cells slots Q (F0 m pc ls (.ref (ad i) :: rest)) :=
  va_getN hexec hb hts hin hown hK (hG.one he) 0 rfl hc k hk hlink hsame (by rw [List.getElem?_map, hv, ← hv1]; rfl) hdg kk
theorem gs_put (hexec : p.tables.exec = Jvm.exec) (hb : c.code = cc) {own ref C : String} {T : u_T} {N ci index : Nat} {Ts : List Cond} (hts : ∀ w ∈ Ts, w.before args s = true) (hin : ∀ w ∈ u_ws C T N, w ∈ Ts) (ty0 : Nat → FieldType) (hty : ∀ k, k < N → parseFieldDescriptor (T k).2.2.1 = some (ty0 k)) (hnm : ∀ a, a < N → ∀ b, b < N → a ≠ b → (T a).2.1 ≠ (T b).2.1) (hown : s.vm.findClass own = some m.cls) (hK : va_K D cl tys s) (hG : gs_ok D cl A ad f H) (hS : va_S A H0 H locs) {i : Nat} {fs : List Value} (he : f i = some (.inr (ci, fs))) (hc : cl[ci]? = some (C, T, N)) (k : Nat) (hk : k < N) (hlink : (Cond.fieldLink own index ref (T k).2.1 (T k).2.2.1).before args s = true) (hsame : ∀ x, s.fieldFound? (T k).1 (T k).2.1 (T k).2.2.1 = some x → s.fieldFound? ref (T k).2.1 (T k).2.2.1 = some x) (hfin : (T k).2.2.2 = false) {ty : FieldType} {v v1 : Value} (hv1 : gs_v ad v = v1) (hvi : ∀ j : Nat, v = .ref j → f j ≠ none) (hd : parseFieldDescriptor (T k).2.2.1 = some ty) (hn : narrow ty v1 = v1) (hfit : fits ty v1 = true) (hl : k < fs.length)
    (hdg : decode cc pc = .ok (.putfield index, 3)) (kk : ∀ (H1 : Heap) (locs1 : List Loc), gs_ok D cl A ad (gs_up f i (.inr (ci, fs.set k v))) H1 → va_S A H0 H1 locs1 → W p l e R s m args below meth c H1 locs1 cells slots Q (F0 m (pc + 3) ls rest)) : W p l e R s m args below meth c H locs cells slots Q (F0 m pc ls (v1 :: .ref (ad i) :: rest)) := by
  obtain ⟨L, hn0, hL⟩ := hG.2.2.2.1
  obtain ⟨k0, hk0⟩ := gs_l_get (ad := ad) (hL i (by rw [he]; exact fun h => nomatch h)) he
  exact va_put hexec hb hts hin ty0 hty hnm hown hK (hG.P L) (hG.D hn0) hS k0 hk0 hc k hk hlink hsame hfin hd hn hfit (by rw [List.length_map]; exact hl) hdg (fun H1 locs1 hP _ hS => kk H1 locs1 (hG.set he hL hk0 (show gs_e ad (.inr (ci, fs.set k v)) = _ by rw [← hv1, ← List.map_set]; rfl) (gs_in_set (hG.2.2.2.2 i _ he) hvi) hP) hS)
theorem gs_putN (hexec : p.tables.exec = Jvm.exec) (hb : c.code = cc) {own ref C host : String} {T : u_T} {N ci index : Nat} {Ts : List Cond} (hts : ∀ w ∈ Ts, w.before args s = true) (hin : ∀ w ∈ u_ws C T N, w ∈ Ts) (ty0 : Nat → FieldType) (hty : ∀ k, k < N → parseFieldDescriptor (T k).2.2.1 = some (ty0 k)) (hnm : ∀ a, a < N → ∀ b, b < N → a ≠ b → (T a).2.1 ≠ (T b).2.1) (hown : s.vm.findClass own = some m.cls) (hK : va_K D cl tys s) (hG : gs_ok D cl A ad f H) (hS : va_S A H0 H locs) {i : Nat} {fs : List Value} (he : f i = some (.inr (ci, fs))) (hc : cl[ci]? = some (C, T, N)) (k : Nat) (hk : k < N) (hlink : (Cond.fieldLinkNest own index ref (T k).2.1 (T k).2.2.1 host).before args s = true) (hsame : ∀ x, s.fieldFound? (T k).1 (T k).2.1 (T k).2.2.1 = some x → s.fieldFound? ref (T k).2.1 (T k).2.2.1 = some x) (hfin : (T k).2.2.2 = false) {ty : FieldType} {v v1 : Value} (hv1 : gs_v ad v = v1) (hvi : ∀ j : Nat, v = .ref j → f j ≠ none) (hd : parseFieldDescriptor (T k).2.2.1 = some ty) (hn : narrow ty v1 = v1) (hfit : fits ty v1 = true) (hl : k < fs.length)
    (hdg : decode cc pc = .ok (.putfield index, 3)) (kk : ∀ (H1 : Heap) (locs1 : List Loc), gs_ok D cl A ad (gs_up f i (.inr (ci, fs.set k v))) H1 → va_S A H0 H1 locs1 → W p l e R s m args below meth c H1 locs1 cells slots Q (F0 m (pc + 3) ls rest)) : W p l e R s m args below meth c H locs cells slots Q (F0 m pc ls (v1 :: .ref (ad i) :: rest)) := by
  obtain ⟨L, hn0, hL⟩ := hG.2.2.2.1
  obtain ⟨k0, hk0⟩ := gs_l_get (ad := ad) (hL i (by rw [he]; exact fun h => nomatch h)) he
  exact va_putN hexec hb hts hin ty0 hty hnm hown hK (hG.P L) (hG.D hn0) hS k0 hk0 hc k hk hlink hsame hfin hd hn hfit (by rw [List.length_map]; exact hl) hdg (fun H1 locs1 hP _ hS => kk H1 locs1 (hG.set he hL hk0 (show gs_e ad (.inr (ci, fs.set k v)) = _ by rw [← hv1, ← List.map_set]; rfl) (gs_in_set (hG.2.2.2.2 i _ he) hvi) hP) hS)
theorem gs_putF (hexec : p.tables.exec = Jvm.exec) (hb : c.code = cc) {own ref C : String} {T : u_T} {N ci index : Nat} {Ts : List Cond} (hts : ∀ w ∈ Ts, w.before args s = true) (hin : ∀ w ∈ u_ws C T N, w ∈ Ts) (ty0 : Nat → FieldType) (hty : ∀ k, k < N → parseFieldDescriptor (T k).2.2.1 = some (ty0 k)) (hnm : ∀ a, a < N → ∀ b, b < N → a ≠ b → (T a).2.1 ≠ (T b).2.1) (hown : s.vm.findClass own = some m.cls) (hK : va_K D cl tys s) (hG : gs_ok D cl A ad f H) (hS : va_S A H0 H locs) {i : Nat} {fs : List Value} (he : f i = some (.inr (ci, fs))) (hc : cl[ci]? = some (C, T, N)) (k : Nat) (hk : k < N) (hlink : (Cond.fieldLink own index ref (T k).2.1 (T k).2.2.1).before args s = true) (hsame : ∀ x, s.fieldFound? (T k).1 (T k).2.1 (T k).2.2.1 = some x → s.fieldFound? ref (T k).2.1 (T k).2.2.1 = some x) (hfin : (T k).2.2.2 = true) (hin2 : meth.name = "<init>") (hdecl : (T k).1 = own) {ty : FieldType} {v v1 : Value} (hv1 : gs_v ad v = v1) (hvi : ∀ j : Nat, v = .ref j → f j ≠ none) (hd : parseFieldDescriptor (T k).2.2.1 = some ty) (hn : narrow ty v1 = v1) (hfit : fits ty v1 = true) (hl : k < fs.length)
    (hdg : decode cc pc = .ok (.putfield index, 3)) (kk : ∀ (H1 : Heap) (locs1 : List Loc), gs_ok D cl A ad (gs_up f i (.inr (ci, fs.set k v))) H1 → va_S A H0 H1 locs1 → W p l e R s m args below meth c H1 locs1 cells slots Q (F0 m (pc + 3) ls rest)) : W p l e R s m args below meth c H locs cells slots Q (F0 m pc ls (v1 :: .ref (ad i) :: rest)) := by
  obtain ⟨L, hn0, hL⟩ := hG.2.2.2.1
  obtain ⟨k0, hk0⟩ := gs_l_get (ad := ad) (hL i (by rw [he]; exact fun h => nomatch h)) he
  exact va_putF hexec hb hts hin ty0 hty hnm hown hK (hG.P L) (hG.D hn0) hS k0 hk0 hc k hk hlink hsame hfin hin2 hdecl hd hn hfit (by rw [List.length_map]; exact hl) hdg (fun H1 locs1 hP _ hS => kk H1 locs1 (hG.set he hL hk0 (show gs_e ad (.inr (ci, fs.set k v)) = _ by rw [← hv1, ← List.map_set]; rfl) (gs_in_set (hG.2.2.2.2 i _ he) hvi) hP) hS)
theorem gs_iald (hexec : p.tables.exec = Jvm.exec) (hb : c.code = cc) (hK : va_K D cl tys s) (hG : gs_ok D cl A ad f H) {i : Nat} (t0 : Nat) {cA : ClassId} {n : Nat} {g : Nat → Int32} (he : f i = some (.inl (cA, n, .inl g))) (ht : tys[t0]? = some (cA, .int)) {j : Int32} (hin : vp_in j n) (hdg : decode cc pc = .ok (.iaload, 1))
    (kk : W p l e R s m args below meth c H locs cells slots Q (F0 m (pc + 1) ls (.int (g j.toNatClampNeg) :: rest))) : W p l e R s m args below meth c H locs cells slots Q (F0 m pc ls (.int j :: .ref (ad i) :: rest)) :=
  va_iald hexec hb hK (hG.one he) 0 t0 rfl ht hin hdg kk
theorem gs_iast (hexec : p.tables.exec = Jvm.exec) (hb : c.code = cc) (hK : va_K D cl tys s) (hG : gs_ok D cl A ad f H) {i : Nat} (t0 : Nat) {cA : ClassId} {n : Nat} {g : Nat → Int32} (hS : va_S A H0 H locs) (he : f i = some (.inl (cA, n, .inl g))) (ht : tys[t0]? = some (cA, .int)) {j : Int32} {x : Int32} (hin : vp_in j n) (hdg : decode cc pc = .ok (.iastore, 1))
    (kk : ∀ (H1 : Heap) (locs1 : List Loc), gs_ok D cl A ad (gs_up f i (.inl (cA, n, .inl (upd g j.toNatClampNeg x)))) H1 → va_S A H0 H1 locs1 → W p l e R s m args below meth c H1 locs1 cells slots Q (F0 m (pc + 1) ls rest)) : W p l e R s m args below meth c H locs cells slots Q (F0 m pc ls (.int x :: .int j :: .ref (ad i) :: rest)) := by
  obtain ⟨L, hn0, hL⟩ := hG.2.2.2.1
  obtain ⟨k0, hk0⟩ := gs_l_get (ad := ad) (hL i (by rw [he]; exact fun h => nomatch h)) he
  exact va_iast hexec hb hK (hG.P L) (hG.D hn0) hS k0 t0 hk0 ht hin hdg (fun H1 locs1 hP _ hS => kk H1 locs1 (hG.set he hL hk0 rfl trivial hP) hS)
theorem gs_zald (hexec : p.tables.exec = Jvm.exec) (hb : c.code = cc) (hK : va_K D cl tys s) (hG : gs_ok D cl A ad f H) {i : Nat} (t0 : Nat) {cA : ClassId} {n : Nat} {g : Nat → Int32} (he : f i = some (.inl (cA, n, .inl g))) (ht : tys[t0]? = some (cA, .boolean)) {j : Int32} (hin : vp_in j n) (hdg : decode cc pc = .ok (.baload, 1))
    (kk : W p l e R s m args below meth c H locs cells slots Q (F0 m (pc + 1) ls (.int (g j.toNatClampNeg) :: rest))) : W p l e R s m args below meth c H locs cells slots Q (F0 m pc ls (.int j :: .ref (ad i) :: rest)) :=
  va_zald hexec hb hK (hG.one he) 0 t0 rfl ht hin hdg kk
theorem gs_zast (hexec : p.tables.exec = Jvm.exec) (hb : c.code = cc) (hK : va_K D cl tys s) (hG : gs_ok D cl A ad f H) {i : Nat} (t0 : Nat) {cA : ClassId} {n : Nat} {g : Nat → Int32} (hS : va_S A H0 H locs) (he : f i = some (.inl (cA, n, .inl g))) (ht : tys[t0]? = some (cA, .boolean)) {j : Int32} {x : Int32} (hin : vp_in j n) (hdg : decode cc pc = .ok (.bastore, 1))
    (kk : ∀ (H1 : Heap) (locs1 : List Loc), gs_ok D cl A ad (gs_up f i (.inl (cA, n, .inl (upd g j.toNatClampNeg (vp_nar .boolean x))))) H1 → va_S A H0 H1 locs1 → W p l e R s m args below meth c H1 locs1 cells slots Q (F0 m (pc + 1) ls rest)) : W p l e R s m args below meth c H locs cells slots Q (F0 m pc ls (.int x :: .int j :: .ref (ad i) :: rest)) := by
  obtain ⟨L, hn0, hL⟩ := hG.2.2.2.1
  obtain ⟨k0, hk0⟩ := gs_l_get (ad := ad) (hL i (by rw [he]; exact fun h => nomatch h)) he
  exact va_zast hexec hb hK (hG.P L) (hG.D hn0) hS k0 t0 hk0 ht hin hdg (fun H1 locs1 hP _ hS => kk H1 locs1 (hG.set he hL hk0 rfl trivial hP) hS)
theorem gs_bald (hexec : p.tables.exec = Jvm.exec) (hb : c.code = cc) (hK : va_K D cl tys s) (hG : gs_ok D cl A ad f H) {i : Nat} (t0 : Nat) {cA : ClassId} {n : Nat} {g : Nat → Int32} (he : f i = some (.inl (cA, n, .inl g))) (ht : tys[t0]? = some (cA, .byte)) {j : Int32} (hin : vp_in j n) (hdg : decode cc pc = .ok (.baload, 1))
    (kk : W p l e R s m args below meth c H locs cells slots Q (F0 m (pc + 1) ls (.int (g j.toNatClampNeg) :: rest))) : W p l e R s m args below meth c H locs cells slots Q (F0 m pc ls (.int j :: .ref (ad i) :: rest)) :=
  va_bald hexec hb hK (hG.one he) 0 t0 rfl ht hin hdg kk
theorem gs_cald (hexec : p.tables.exec = Jvm.exec) (hb : c.code = cc) (hK : va_K D cl tys s) (hG : gs_ok D cl A ad f H) {i : Nat} (t0 : Nat) {cA : ClassId} {n : Nat} {g : Nat → Int32} (he : f i = some (.inl (cA, n, .inl g))) (ht : tys[t0]? = some (cA, .char)) {j : Int32} (hin : vp_in j n) (hdg : decode cc pc = .ok (.caload, 1))
    (kk : W p l e R s m args below meth c H locs cells slots Q (F0 m (pc + 1) ls (.int (g j.toNatClampNeg) :: rest))) : W p l e R s m args below meth c H locs cells slots Q (F0 m pc ls (.int j :: .ref (ad i) :: rest)) :=
  va_cald hexec hb hK (hG.one he) 0 t0 rfl ht hin hdg kk
theorem gs_cast (hexec : p.tables.exec = Jvm.exec) (hb : c.code = cc) (hK : va_K D cl tys s) (hG : gs_ok D cl A ad f H) {i : Nat} (t0 : Nat) {cA : ClassId} {n : Nat} {g : Nat → Int32} (hS : va_S A H0 H locs) (he : f i = some (.inl (cA, n, .inl g))) (ht : tys[t0]? = some (cA, .char)) {j : Int32} {x : Int32} (hin : vp_in j n) (hdg : decode cc pc = .ok (.castore, 1))
    (kk : ∀ (H1 : Heap) (locs1 : List Loc), gs_ok D cl A ad (gs_up f i (.inl (cA, n, .inl (upd g j.toNatClampNeg (vp_nar .char x))))) H1 → va_S A H0 H1 locs1 → W p l e R s m args below meth c H1 locs1 cells slots Q (F0 m (pc + 1) ls rest)) : W p l e R s m args below meth c H locs cells slots Q (F0 m pc ls (.int x :: .int j :: .ref (ad i) :: rest)) := by
  obtain ⟨L, hn0, hL⟩ := hG.2.2.2.1
  obtain ⟨k0, hk0⟩ := gs_l_get (ad := ad) (hL i (by rw [he]; exact fun h => nomatch h)) he
  exact va_cast hexec hb hK (hG.P L) (hG.D hn0) hS k0 t0 hk0 ht hin hdg (fun H1 locs1 hP _ hS => kk H1 locs1 (hG.set he hL hk0 rfl trivial hP) hS)
theorem gs_lald (hexec : p.tables.exec = Jvm.exec) (hb : c.code = cc) (hK : va_K D cl tys s) (hG : gs_ok D cl A ad f H) {i : Nat} (t0 : Nat) {cA : ClassId} {n : Nat} {g : Nat → Int64} (he : f i = some (.inl (cA, n, .inr (.inl g)))) (ht : tys[t0]? = some (cA, .long)) {j : Int32} (hin : vp_in j n) (hdg : decode cc pc = .ok (.laload, 1))
    (kk : W p l e R s m args below meth c H locs cells slots Q (F0 m (pc + 1) ls (.long (g j.toNatClampNeg) :: rest))) : W p l e R s m args below meth c H locs cells slots Q (F0 m pc ls (.int j :: .ref (ad i) :: rest)) :=
  va_lald hexec hb hK (hG.one he) 0 t0 rfl ht hin hdg kk
theorem gs_last (hexec : p.tables.exec = Jvm.exec) (hb : c.code = cc) (hK : va_K D cl tys s) (hG : gs_ok D cl A ad f H) {i : Nat} (t0 : Nat) {cA : ClassId} {n : Nat} {g : Nat → Int64} (hS : va_S A H0 H locs) (he : f i = some (.inl (cA, n, .inr (.inl g)))) (ht : tys[t0]? = some (cA, .long)) {j : Int32} {x : Int64} (hin : vp_in j n) (hdg : decode cc pc = .ok (.lastore, 1))
    (kk : ∀ (H1 : Heap) (locs1 : List Loc), gs_ok D cl A ad (gs_up f i (.inl (cA, n, .inr (.inl (vp_updL g j.toNatClampNeg x))))) H1 → va_S A H0 H1 locs1 → W p l e R s m args below meth c H1 locs1 cells slots Q (F0 m (pc + 1) ls rest)) : W p l e R s m args below meth c H locs cells slots Q (F0 m pc ls (.long x :: .int j :: .ref (ad i) :: rest)) := by
  obtain ⟨L, hn0, hL⟩ := hG.2.2.2.1
  obtain ⟨k0, hk0⟩ := gs_l_get (ad := ad) (hL i (by rw [he]; exact fun h => nomatch h)) he
  exact va_last hexec hb hK (hG.P L) (hG.D hn0) hS k0 t0 hk0 ht hin hdg (fun H1 locs1 hP _ hS => kk H1 locs1 (hG.set he hL hk0 rfl trivial hP) hS)
theorem gs_aldq (hexec : p.tables.exec = Jvm.exec) (hb : c.code = cc) (hK : va_K D cl tys s) (hG : gs_ok D cl A ad f H) {i : Nat} (t0 : Nat) {cA : ClassId} {n : Nat} {g : Nat → Option Nat} {C : String} (he : f i = some (.inl (cA, n, .inr (.inr (.inr (.inr g)))))) (ht : tys[t0]? = some (cA, .object C)) {j : Int32} (hin : vp_in j n) (hdg : decode cc pc = .ok (.aaload, 1))
    (kk : W p l e R s m args below meth c H locs cells slots Q (F0 m (pc + 1) ls (va_rf ((g j.toNatClampNeg).map ad) :: rest))) : W p l e R s m args below meth c H locs cells slots Q (F0 m pc ls (.int j :: .ref (ad i) :: rest)) :=
  va_aldq hexec hb hK (hG.one he) 0 t0 rfl ht hin hdg kk
theorem gs_astq (hexec : p.tables.exec = Jvm.exec) (hb : c.code = cc) (hK : va_K D cl tys s) (hG : gs_ok D cl A ad f H) {i : Nat} (t0 : Nat) {cA : ClassId} {n : Nat} {g : Nat → Option Nat} (hS : va_S A H0 H locs) (ci : Nat) {r : vw_C} {v : Nat} {vs : List Value} (he : f i = some (.inl (cA, n, .inr (.inr (.inr (.inr g)))))) (ht : tys[t0]? = some (cA, .object r.1)) (hv : f v = some (.inr (ci, vs))) (hc : cl[ci]? = some r) {j : Int32} (hin : vp_in j n) (hdg : decode cc pc = .ok (.aastore, 1))
    (kk : ∀ (H1 : Heap) (locs1 : List Loc), gs_ok D cl A ad (gs_up f i (.inl (cA, n, .inr (.inr (.inr (.inr (va_up g j.toNatClampNeg (some v)))))))) H1 → va_S A H0 H1 locs1 → W p l e R s m args below meth c H1 locs1 cells slots Q (F0 m (pc + 1) ls rest)) : W p l e R s m args below meth c H locs cells slots Q (F0 m pc ls (.ref (ad v) :: .int j :: .ref (ad i) :: rest)) := by
  obtain ⟨L, hn0, hL⟩ := hG.2.2.2.1
  obtain ⟨k0, hk0⟩ := gs_l_get (ad := ad) (hL i (by rw [he]; exact fun h => nomatch h)) he
  obtain ⟨kv, hkv⟩ := gs_l_get (ad := ad) (hL v (by rw [hv]; exact fun h => nomatch h)) hv
  exact va_astq hexec hb hK (hG.P L) (hG.D hn0) hS k0 t0 kv ci hk0 ht hkv hc hin hdg (fun H1 locs1 hP _ hS => kk H1 locs1 (hG.set he hL hk0 (by rw [show some (ad v) = (some v).map ad from rfl, gs_q_up]; rfl) (gs_in_aset (hG.2.2.2.2 i _ he) (fun j h => by cases h; exact gs_some hv)) hP) hS)
theorem gs_astqN (hexec : p.tables.exec = Jvm.exec) (hb : c.code = cc) (hK : va_K D cl tys s) (hG : gs_ok D cl A ad f H) {i : Nat} (t0 : Nat) {cA : ClassId} {n : Nat} {g : Nat → Option Nat} (hS : va_S A H0 H locs) {C : String} (he : f i = some (.inl (cA, n, .inr (.inr (.inr (.inr g)))))) (ht : tys[t0]? = some (cA, .object C)) {j : Int32} (hin : vp_in j n) (hdg : decode cc pc = .ok (.aastore, 1))
    (kk : ∀ (H1 : Heap) (locs1 : List Loc), gs_ok D cl A ad (gs_up f i (.inl (cA, n, .inr (.inr (.inr (.inr (va_up g j.toNatClampNeg none))))))) H1 → va_S A H0 H1 locs1 → W p l e R s m args below meth c H1 locs1 cells slots Q (F0 m (pc + 1) ls rest)) : W p l e R s m args below meth c H locs cells slots Q (F0 m pc ls (.null :: .int j :: .ref (ad i) :: rest)) := by
  obtain ⟨L, hn0, hL⟩ := hG.2.2.2.1
  obtain ⟨k0, hk0⟩ := gs_l_get (ad := ad) (hL i (by rw [he]; exact fun h => nomatch h)) he
  exact va_astqN hexec hb hK (hG.P L) (hG.D hn0) hS k0 t0 hk0 ht hin hdg (fun H1 locs1 hP _ hS => kk H1 locs1 (hG.set he hL hk0 (by rw [show (none : Option Nat) = (none : Option Nat).map ad from rfl, gs_q_up]; rfl) (gs_in_aset (hG.2.2.2.2 i _ he) (fun j h => nomatch h)) hP) hS)
theorem gs_alen (hexec : p.tables.exec = Jvm.exec) (hb : c.code = cc) (hK : va_K D cl tys s) (hG : gs_ok D cl A ad f H) {i : Nat} (t0 : Nat) {cA : ClassId} {x : vp_A} (he : f i = some (.inl (cA, x))) {ty : FieldType} (ht : tys[t0]? = some (cA, ty)) {v : Int32} (hv : Int32.ofNat x.1 = v) (hdg : decode cc pc = .ok (.arraylength, 1))
    (kk : W p l e R s m args below meth c H locs cells slots Q (F0 m (pc + 1) ls (.int v :: rest))) : W p l e R s m args below meth c H locs cells slots Q (F0 m pc ls (.ref (ad i) :: rest)) := by
  obtain ⟨n, x⟩ := x
  rcases x with x | x | x | x | x <;> exact va_alen hexec hb hK (hG.one he) 0 t0 rfl ht hv hdg kk
theorem gs_recv {ci i : Nat} {q : vw_C} {fs : List Value} (hK : va_K D cl tys s) (hG : gs_ok D cl A ad f H) (hc : cl[ci]? = some q) (he : f i = some (.inr (ci, fs))) : ∃ cell : Cell, H[ad i]? = some cell ∧ cell.vm.isStatics = false ∧ s.vm.findClass q.1 = some cell.cls := va_recv hK (hG.one he) (q0 := 0) (fs := fs.map (gs_v ad)) hc rfl
/-- one class of arrays for each type of their parts -/
theorem gs_same {cA cB : ClassId} {ty : FieldType} {U : State} (h1 : va_RA U cA ty) (h2 : va_RA U cB ty) : cA = cB := by
  cases ty with
  | object C =>
    obtain ⟨_, _, -, -, -, h3⟩ := h1
    obtain ⟨_, _, -, -, -, h4⟩ := h2
    exact Option.some.inj (h3.symm.trans h4)
  | _ => exact Option.some.inj (Eq.trans (Eq.symm (show U.vm.findClass _ = some cA from h1)) h2)
theorem gs_newcls {t0 : Nat} {cA cB : ClassId} {ty : FieldType} (hK : va_K D cl (tys ++ [(cB, ty)]) s) (ht : tys[t0]? = some (cA, ty)) : cB = cA := by
  have h1 := (hK.2 t0 (cA, ty) (by rw [List.getElem?_append_left (List.getElem?_eq_some_iff.mp ht).1]; exact ht)).2
  have h2 := (hK.2 tys.length (cB, ty) (by rw [List.getElem?_append_right (Nat.le_refl _), Nat.sub_self]; rfl)).2
  exact gs_same h2 h1
theorem gs_newa (hexec : p.tables.exec = Jvm.exec) (hb : c.code = cc) {atype : ArrayType} (harr : (Cond.arrayClass (newarray.typeOf atype)).before args s = true) {ty : FieldType} (hty : newarray.typeOf atype = ty) (hK : va_K D cl tys s) (hG : gs_ok D cl A ad f H) (hS : va_S A H0 H locs) (hA : ∀ q, H0.size ≤ q → A q) (t0 : Nat) {cA : ClassId} (ht : tys[t0]? = some (cA, ty)) (i : Nat) (hi : f i = none)
    {n : Int32} {N' : Nat} {a0 : vp_A} (ha : ∀ cA : ClassId, vp_cell cA a0 = arrV cA N' (fun _ => defaultValue ty)) (hn : ¬ n < 0) (hN : n.toNatClampNeg = N') (hbytes : N' * componentBytes ty ≤ 536870912) (hcells : cells + 1 ≤ R.cells) (hslots : slots + N' ≤ R.slots) (hdg : decode cc pc = .ok (.newarray atype, 2))
    (kk : ∀ (q : Nat) (H1 : Heap), gs_ok D cl A (va_up ad i q) (gs_up f i (.inl (cA, a0))) H1 → va_S A H0 H1 locs → W p l e R s m args below meth c H1 locs (cells + 1) (slots + N') Q (F0 m (pc + 2) ls (.ref (va_up ad i q i) :: rest))) (hde : gs_e ad (.inl (cA, a0)) = .inl (cA, a0)) (hin : gs_in f (.inl (cA, a0))) : W p l e R s m args below meth c H locs cells slots Q (F0 m pc ls (.int n :: rest)) := by
  obtain ⟨L, hn0, hL⟩ := hG.2.2.2.1
  refine va_newa hexec hb harr hty hK (hG.P L) (hG.D hn0) hS hA ha hn hN hbytes hcells hslots hdg (fun q cB H1 hK1 hP hD hS => ?_)
  have hcB := gs_newcls hK1 ht
  subst hcB
  have k2 := kk q H1 (hG.push hi hL hde hin hP hD) hS
  rw [va_up_self] at k2
  exact k2
theorem gs_newq (hexec : p.tables.exec = Jvm.exec) (hb : c.code = cc) {own C : String} {index : Nat} (hown : s.vm.findClass own = some m.cls) (hclink : (Cond.classLink own index C).before args s = true) (hover : va_AO C s) (hK : va_K D cl tys s) (hG : gs_ok D cl A ad f H) (hS : va_S A H0 H locs) (hA : ∀ q, H0.size ≤ q → A q) (t0 : Nat) {cA : ClassId} (ht : tys[t0]? = some (cA, .object C)) (i : Nat) (hi : f i = none)
    {n : Int32} {N' : Nat} (hn : ¬ n < 0) (hN : n.toNatClampNeg = N') (hbytes : N' * 4 ≤ 536870912) (hcells : cells + 1 ≤ R.cells) (hslots : slots + N' ≤ R.slots) (hdg : decode cc pc = .ok (.anewarray index, 3))
    (kk : ∀ (q : Nat) (H1 : Heap), gs_ok D cl A (va_up ad i q) (gs_up f i (.inl (cA, N', .inr (.inr (.inr (.inr (fun _ => none))))))) H1 → va_S A H0 H1 locs → W p l e R s m args below meth c H1 locs (cells + 1) (slots + N') Q (F0 m (pc + 3) ls (.ref (va_up ad i q i) :: rest))) : W p l e R s m args below meth c H locs cells slots Q (F0 m pc ls (.int n :: rest)) := by
  obtain ⟨L, hn0, hL⟩ := hG.2.2.2.1
  refine va_newq hexec hb hown hclink hover hK (hG.P L) (hG.D hn0) hS hA hn hN hbytes hcells hslots hdg (fun q cB H1 hK1 hP hD hS => ?_)
  have hcB := gs_newcls hK1 ht
  subst hcB
  have k2 := kk q H1 (hG.push hi hL (e := .inl (cA, N', .inr (.inr (.inr (.inr (fun _ => none)))))) rfl (fun k j h => nomatch h) hP hD) hS
  rw [va_up_self] at k2
  exact k2
theorem gs_new (hexec : p.tables.exec = Jvm.exec) (hb : c.code = cc) {own C : String} {T : u_T} {N ci index : Nat} {Ts : List Cond} (hts : ∀ w ∈ Ts, w.before args s = true) (hin : ∀ w ∈ u_ws C T N, w ∈ Ts) (ty : Nat → FieldType) (hty : ∀ k, k < N → parseFieldDescriptor (T k).2.2.1 = some (ty k)) (hown : s.vm.findClass own = some m.cls) (hcl : (Cond.classLink own index C).before args s = true) (hinst : (Cond.instantiable C N).before args s = true) (hini : (Cond.initialized C).before args s = true)
    (hK : va_K D cl tys s) (hG : gs_ok D cl A ad f H) (hS : va_S A H0 H locs) (hA : ∀ q, H0.size ≤ q → A q) (hc : cl[ci]? = some (C, T, N)) (i : Nat) (hi : f i = none) {fs : List Value} (hfd : fs.map (gs_v ad) = fs) (hin0 : gs_in f (.inr (ci, fs))) (hfs : ∀ j, j < N → defaultValue (ty j) = vp_V fs j) (hcells : cells + 1 ≤ R.cells) (hslots : slots + N ≤ R.slots) (hdg : decode cc pc = .ok (.new index, 3))
    (kk : ∀ (q : Nat) (H1 : Heap), gs_ok D cl A (va_up ad i q) (gs_up f i (.inr (ci, fs))) H1 → va_S A H0 H1 locs → W p l e R s m args below meth c H1 locs (cells + 1) (slots + N) Q (F0 m (pc + 3) ls (.ref (va_up ad i q i) :: rest))) : W p l e R s m args below meth c H locs cells slots Q (F0 m pc ls rest) := by
  obtain ⟨L, hn0, hL⟩ := hG.2.2.2.1
  refine va_new hexec hb hts hin ty hty hown hcl hinst hini hK (hG.P L) (hG.D hn0) hS hA hc hfs hcells hslots hdg (fun q H1 hP hD hS => ?_)
  have k2 := kk q H1 (hG.push hi hL (e := .inr (ci, fs)) (show Sum.inr (ci, fs.map (gs_v ad)) = _ by rw [hfd]) hin0 hP hD) hS
  rw [va_up_self] at k2
  exact k2
end GSR
