/-! p36 is EMPTY as it is printed: its head asks that the law's own code has no exception table (the word Cond.code), and of the launch that the law's class file says so; but the law's method has a handler (catch (Fault fault)), and its class file, which the claim names, says that. So no launch meets the premises: the claim says nothing, and its witness doesn't hold. -/
theorem p36_gen {l : Launch} {file : ClassFile.Facts.File} {y : MethodName} {b : ByteArray} {n : Nat} {r : Option FieldType} {ts : List Cond} {room : Room} (hf : l.file? y.cls = some file) (hn : file.hasCode y b n r = false) (hL : FromLaunch l (headSpec (Cond.code y b n r :: ts) room)) : False := by
  have h1 := hL.1 (y, b, n, r) (List.mem_append_left _ (List.mem_append_left _ List.mem_cons_self))
  dsimp only at h1
  rw [hf, Option.any_some, hn] at h1
  cases h1
set_option maxRecDepth 100000 in
theorem p36_noCode : classFile.hasCode x code maxLocals ret = false := by decide +kernel
theorem p36_empty (l : Launch) : ¬ Lists l classFile x code maxLocals ret tables_1 room_1 := fun h => p36_gen h.2.1 p36_noCode h.2.2.1
/-- the witness that the claim prints can't be -/
theorem p36_noWitness : ¬ WitnessClaimed_1 := fun ⟨_, _, _, _, _, _, h⟩ => p36_empty _ h.1
/-- true, but of nothing -/
theorem i_vc : Claimed_1_1 ∧ Claimed_1_2 := ⟨fun l _ hL _ => absurd hL (p36_empty l), fun l _ hL _ => absurd hL (p36_empty l)⟩
