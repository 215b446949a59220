/-! the entry: the classes of the rows -/
theorem eA1 {args : Array Value} {s : State} {ty : FieldType} (h : (Cond.arrayClass ty).before args s = true) : ∃ c : ClassId, ArrOfT s c ty ∧ s.vm.findClass ("[" ++ ty.toString) = some c := by
  obtain ⟨c, k, comp, h1, h2, h3⟩ := Cond.arrayClass_spec h
  exact ⟨c, fun n z => ⟨fun k h => (by cases h), k, h2, comp, h3⟩, h1⟩
theorem eA2 {args : Array Value} {s : State} {C : String} (h : (Cond.arrayOver (.object C)).before args s = true) : ∃ c : ClassId, ArrOfT s c (.object C) ∧ va_RA s c (.object C) := by
  obtain ⟨cE, cA, kA, f1, f2, f3, f4, f5⟩ := Cond.arrayOver_spec h
  exact ⟨cA, fun n z => ⟨fun k h => (by cases h), kA, f3, cE, f4⟩, kA, cE, f3, f4, f1, f5⟩
theorem eK1 : Cond.arrayOver (.object "RunJudge$State") ∈ lw_tbl := List.mem_append_right _ (List.mem_of_getElem? (i := 150) (by decide +kernel))
theorem eK2 : Cond.arrayOver (.object "RunJudge$Suspect") ∈ lw_tbl := List.mem_append_right _ (List.mem_of_getElem? (i := 204) (by decide +kernel))
theorem eK3 : Cond.arrayOver (.object "RunJudge$Tape") ∈ lw_tbl := List.mem_append_right _ (List.mem_of_getElem? (i := 256) (by decide +kernel))
theorem eT {args : Array Value} {s : State} (ht : ∀ w ∈ lw_tbl, w.before args s = true) : ∃ cA : Nat → ClassId, ∀ (k : Nat) (q : ClassId × FieldType), (xtys cA)[k]? = some q → ArrOfT s q.1 q.2 ∧ va_RA s q.1 q.2 := by
  have hx : ∀ w ∈ xtb, w.before args s = true := fun w h => ht w (List.mem_filter.mp h).1
  obtain ⟨c0, a0, b0⟩ := eA1 (hx _ ka0)
  obtain ⟨c1, a1, b1⟩ := eA1 (hx _ ka1)
  obtain ⟨c2, a2, b2⟩ := eA1 (hx _ ka2)
  obtain ⟨c3, a3, b3⟩ := eA1 (hx _ ka3)
  obtain ⟨c4, a4, b4⟩ := eA2 (ht _ eK1)
  obtain ⟨c5, a5, b5⟩ := eA2 (ht _ eK2)
  obtain ⟨c6, a6, b6⟩ := eA2 (ht _ eK3)
  refine ⟨fun k => match k with
    | 0 => c0
    | 1 => c1
    | 2 => c2
    | 3 => c3
    | 4 => c4
    | 5 => c5
    | _ => c6, fun k q hk => ?_⟩
  match k, hk with
  | 0, hk => cases hk; exact ⟨a0, b0⟩
  | 1, hk => cases hk; exact ⟨a1, b1⟩
  | 2, hk => cases hk; exact ⟨a2, b2⟩
  | 3, hk => cases hk; exact ⟨a3, b3⟩
  | 4, hk => cases hk; exact ⟨a4, b4⟩
  | 5, hk => cases hk; exact ⟨a5, b5⟩
  | 6, hk => cases hk; exact ⟨a6, b6⟩
  | k + 7, hk => simp [xtys] at hk
