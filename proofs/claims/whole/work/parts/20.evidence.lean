/-! two facts about the statement itself (REPORT.md, 'STATEMENT' and 'TRANSLATOR') -/
/-- the end that the claim owes allows at most 601024 new cells, whatever the script -/
theorem ev_room {tb : Tables} {e : Env} {a : Array Value} {s t : State} {o : Outcome} (h : Post_1_1 tb e a s o t) : t.heap.size ≤ s.heap.size + 601024 := h.2.1.2.2.2.2.1
/-- the method String.charAt -/
def ev_charAt : MethodName := ⟨"java/lang/String", "charAt", "(I)C"⟩
/-- a word that tells a code for String.charAt, or what a call of any method 'charAt' on a String selects -/
def ev_tells : Cond → Bool
  | .code y .. | .codeSync y .. | .codeWith y .. | .codeSyncWith y .. | .native y | .instanceMethod y => decide (y = ev_charAt)
  | .selects C x y => decide (y = ev_charAt) || (decide (C = "java/lang/String") && decide (x.name = "charAt"))
  | _ => false
/-- none of the words that the claim gives does -/
theorem ev_none : tables_1.all (fun w => !ev_tells w) = true := by decide +kernel
/-- (the test is no empty one: the same words of StringBuilder.charAt are there) -/
theorem ev_some : tables_1.any (fun w => match w with | .selects C x _ => decide (C = "java/lang/StringBuilder") && decide (x.name = "charAt") | _ => false) = true := by decide +kernel
