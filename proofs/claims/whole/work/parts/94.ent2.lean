theorem eC {args : Array Value} {s : State} (ht : ∀ w ∈ lw_tbl, w.before args s = true) : ∃ (dC : Nat → ClassId) (dI : Nat → Nat → Nat), ∀ (k : Nat) (q : vw_C), vwCl[k]? = some q → u_Kn s q.1 q.2.1 q.2.2 (dC k) (dI k) := by
  have hx : ∀ w ∈ xtb, w.before args s = true := fun w h => ht w (List.mem_filter.mp h).1
  obtain ⟨c0, i0, h0⟩ := u_known (C := RX1) (T := TX1) (N := 13) (n := 13) hx iwX1 (hx _ (xint 29 (by decide +kernel) rfl : Cond.instantiable RX1 13 ∈ xtb))
  obtain ⟨c1, i1, h1⟩ := u_known (C := RX2) (T := TX2) (N := 6) (n := 6) hx iwX2 (hx _ (xint 174 (by decide +kernel) rfl : Cond.instantiable RX2 6 ∈ xtb))
  obtain ⟨c2, i2, h2⟩ := u_known (C := RX3) (T := TX3) (N := 3) (n := 3) hx iwX3 (hx _ (xint 157 (by decide +kernel) rfl : Cond.instantiable RX3 3 ∈ xtb))
  obtain ⟨c3, i3, h3⟩ := u_known (C := RX4) (T := TX4) (N := 4) (n := 4) hx iwX4 (hx _ (xint 211 (by decide +kernel) rfl : Cond.instantiable RX4 4 ∈ xtb))
  obtain ⟨c4, i4, h4⟩ := u_known (C := RX5) (T := TX5) (N := 1) (n := 1) hx iwX5 (hx _ (xint 144 (by decide +kernel) rfl : Cond.instantiable RX5 1 ∈ xtb))
  obtain ⟨c5, i5, h5⟩ := u_known (C := RX6) (T := TX6) (N := 10) (n := 10) hx iwX6 (hx _ (xint 97 (by decide +kernel) rfl : Cond.instantiable RX6 10 ∈ xtb))
  obtain ⟨c6, i6, h6⟩ := u_known (C := RX7) (T := TX7) (N := 6) (n := 6) hx iwX7 (hx _ (xint 205 (by decide +kernel) rfl : Cond.instantiable RX7 6 ∈ xtb))
  obtain ⟨c7, i7, h7⟩ := u_known (C := RX8) (T := TX8) (N := 5) (n := 5) hx iwX8 (hx _ (xint 257 (by decide +kernel) rfl : Cond.instantiable RX8 5 ∈ xtb))
  obtain ⟨c8, i8, h8⟩ := u_known (C := RX9) (T := TX9) (N := 15) (n := 15) hx iwX9 (hx _ (xint 21 (by decide +kernel) rfl : Cond.instantiable RX9 15 ∈ xtb))
  obtain ⟨c9, i9, h9⟩ := u_known (C := RX10) (T := TX10) (N := 38) (n := 38) hx iwX10 (hx _ (xint 999 (by decide +kernel) rfl : Cond.instantiable RX10 38 ∈ xtb))
  refine ⟨fun k => match k with
    | 0 => c0
    | 1 => c1
    | 2 => c2
    | 3 => c3
    | 4 => c4
    | 5 => c5
    | 6 => c6
    | 7 => c7
    | 8 => c8
    | _ => c9, fun k => match k with
    | 0 => i0
    | 1 => i1
    | 2 => i2
    | 3 => i3
    | 4 => i4
    | 5 => i5
    | 6 => i6
    | 7 => i7
    | 8 => i8
    | _ => i9, fun k q hk => ?_⟩
  match k, hk with
  | 0, hk => cases hk; exact h0
  | 1, hk => cases hk; exact h1
  | 2, hk => cases hk; exact h2
  | 3, hk => cases hk; exact h3
  | 4, hk => cases hk; exact h4
  | 5, hk => cases hk; exact h5
  | 6, hk => cases hk; exact h6
  | 7, hk => cases hk; exact h7
  | 8, hk => cases hk; exact h8
  | 9, hk => cases hk; exact h9
  | k + 10, hk => simp [vwCl] at hk
