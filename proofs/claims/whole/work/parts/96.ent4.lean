/-! the entry: FIRST_LIFE, and what a throw asks -/
theorem eZ {args : Array Value} {s : State} (ht : ∀ w ∈ lw_tbl, w.before args s = true) (hgv : (Jvm.Cond.and given_1 narrow_1).before args s = true) : xZ (lA s) s := by
  have hs := flat_of_before _ hgv
  have hA : ∀ a : Nat, a < s.heap.size → ¬ lA s a := fun a h => Nat.not_le.mpr h
  have h1 : xNest ∈ tables_1 := by decide +kernel
  have h2 : Cond.laysStatic "RunJudge" "FIRST_LIFE" "[I" ∈ tables_1 := by decide +kernel
  have h3 : Cond.initialized "RunJudge" ∈ tables_1 := by decide +kernel
  obtain ⟨t, e1, e2⟩ := va_Tof (ty := .int) (N := 8) (f := fun j => .int (xfl j)) (A := lA s) (by decide) (hs (.arrayOf (.static "RunJudge" "FIRST_LIFE" "[I") .int) (by decide +kernel)) (va_eqt (hs (.eq (.length (.static "RunJudge" "FIRST_LIFE" "[I")) (.int 8)) (by decide +kernel))) (fun j hj => by
    match j, hj with
    | 0, _ => exact va_eqt (hs (.eq (.elem (.static "RunJudge" "FIRST_LIFE" "[I") (.int 0)) (.int 5)) (by decide +kernel))
    | 1, _ => exact va_eqt (hs (.eq (.elem (.static "RunJudge" "FIRST_LIFE" "[I") (.int 1)) (.int 2)) (by decide +kernel))
    | 2, _ => exact va_eqt (hs (.eq (.elem (.static "RunJudge" "FIRST_LIFE" "[I") (.int 2)) (.int 3)) (by decide +kernel))
    | 3, _ => exact va_eqt (hs (.eq (.elem (.static "RunJudge" "FIRST_LIFE" "[I") (.int 3)) (.int 0)) (by decide +kernel))
    | 4, _ => exact va_eqt (hs (.eq (.elem (.static "RunJudge" "FIRST_LIFE" "[I") (.int 4)) (.int 0)) (by decide +kernel))
    | 5, _ => exact va_eqt (hs (.eq (.elem (.static "RunJudge" "FIRST_LIFE" "[I") (.int 5)) (.int 0)) (by decide +kernel))
    | 6, _ => exact va_eqt (hs (.eq (.elem (.static "RunJudge" "FIRST_LIFE" "[I") (.int 6)) (.int 0)) (by decide +kernel))
    | 7, _ => exact va_eqt (hs (.eq (.elem (.static "RunJudge" "FIRST_LIFE" "[I") (.int 7)) (.int 0)) (by decide +kernel))
    | j + 8, h => exact absurd h (by omega)) hA
  exact ⟨va_Nw.of rfl (ht _ (List.mem_append_right _ h1)), t, va_Zof (ht _ (List.mem_append_right _ h2)) (ht _ (List.mem_append_right _ h3)) e1 hA, e2⟩
