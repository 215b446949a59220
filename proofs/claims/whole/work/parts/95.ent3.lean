theorem eN {args : Array Value} {s : State} (ht : ∀ w ∈ lw_tbl, w.before args s = true) : xZn s := by
  refine ⟨fun w hw => ?_, va_AO.of (ht _ eK1), va_AO.of (ht _ eK2), va_AO.of (ht _ eK3)⟩
  have h2 := List.all_eq_true.mp xNst_in w hw
  simp only [Bool.and_eq_true, decide_eq_true_eq] at h2
  exact va_Nw.of h2.2 (ht w (List.mem_append_right _ h2.1))
theorem eB {args : Array Value} {s : State} (ht : ∀ w ∈ lw_tbl, w.before args s = true) : ∀ w ∈ xBad, va_Nw w s := by
  intro w hw
  have h2 := List.all_eq_true.mp xBad_in w hw
  simp only [Bool.and_eq_true, decide_eq_true_eq] at h2
  exact va_Nw.of h2.2 (ht w (List.mem_append_right _ h2.1))
