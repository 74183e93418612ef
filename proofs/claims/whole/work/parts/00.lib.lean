/-! a name of the rest of the library, first of all: so the rounds read over the whole of it from the start -/
theorem lb_over {args : Array Value} {s : State} {t : FieldType} (h : (Cond.arrayOver (.array t)).before args s = true) : ∃ c, s.vm.findClass ("[" ++ (FieldType.array t).toString) = some c := by
  obtain ⟨_, c, _, _, _, _, h4⟩ := Cond.arrayOver_specA h
  exact ⟨c, h4⟩
