theorem xt_bad {x : Int32} {n : Nat} {hi : Int} (hn : n < 2 ^ 31) (h : x < 0 ∨ nI n ≤ x) (e : hi + 1 = n) : x.toInt < 0 ∨ hi < x.toInt := by
  rcases h with h | h
  · exact Or.inl (by rw [Int32.lt_iff_toInt_lt] at h; exact h)
  · refine Or.inr ?_
    rw [Int32.le_iff_toInt_le, nI_toInt hn] at h
    omega
theorem at_rg {x : Int32} {n r : Nat} (hn : n < 2 ^ 31) (h : x < 0 ∨ nI n ≤ x) (e : n = r + 1) : x < nI 0 ∨ nI r < x := by
  rcases h with h | h
  · exact Or.inl h
  · refine Or.inr ?_
    rw [Int32.le_iff_toInt_le, nI_toInt hn] at h
    rw [Int32.lt_iff_toInt_lt, nI_toInt (by omega)]
    omega
theorem rg_at {x : Int32} {n r : Nat} (hn : n < 2 ^ 31) (h : x < nI 0 ∨ nI r < x) (e : n = r + 1) : x < 0 ∨ nI n ≤ x := by
  rcases h with h | h
  · exact Or.inl h
  · refine Or.inr ?_
    rw [Int32.lt_iff_toInt_lt, nI_toInt (by omega)] at h
    rw [Int32.le_iff_toInt_le, nI_toInt hn]
    omega
theorem nI_sub1 {n : Nat} (hn : n < 2 ^ 31) : (nI n - 1).toInt = (n : Int) - 1 := by
  by_cases h : n = 0
  · subst h; decide
  · rw [show nI n - 1 = nI (n - 1) from pk_sub (a := n) (b := 1) (by omega), nI_toInt (by omega)]
    omega
/-! a number less another, and one beside it -/
theorem sub_lt {a n c : Nat} (ha : a < 2 ^ 30) (hn : n < 2 ^ 30) (hc : c < 2 ^ 30) : nI a < nI n - nI c ↔ a + c < n := by
  rw [Int32.lt_iff_toInt_lt, pk_sub_toInt hn hc, nI_toInt (by omega)]
  omega
theorem sub_le {a n c : Nat} (ha : a < 2 ^ 30) (hn : n < 2 ^ 30) (hc : c < 2 ^ 30) : nI n - nI c ≤ nI a ↔ n ≤ a + c := by
  rw [Int32.le_iff_toInt_le, pk_sub_toInt hn hc, nI_toInt (by omega)]
  omega
section XS
variable {sh : List xSh} {Y : xY} {pc : Nat} {lv : List (Option Value)} {st : List Value} {M : xM} {Q : Option Value → xM → Prop}
theorem xs_icmp_lt {x y : Int32} {off : Int} (a n c tgt : Nat) (hd : decode Y.2.1 pc = .ok (.if_icmp .lt off, 3)) (ht : (pc : Int) + off = (tgt : Int)) (hx : x = nI a) (hy : y = nI n - nI c) (ha : a < 2 ^ 30) (hn : n < 2 ^ 30) (hc : c < 2 ^ 30) (kt : a + c < n → WP sh Y tgt lv st M Q) (kf : n ≤ a + c → WP sh Y (pc + 3) lv st M Q) : WP sh Y pc lv (.int y :: .int x :: st) M Q := by
  subst hx hy
  exact xi_icmp_lt tgt hd ht (fun h => kt ((sub_lt ha hn hc).mp h)) (fun h => kf (by rw [sub_lt ha hn hc] at h; omega))
theorem xs_icmp_ge {x y : Int32} {off : Int} (a n c tgt : Nat) (hd : decode Y.2.1 pc = .ok (.if_icmp .ge off, 3)) (ht : (pc : Int) + off = (tgt : Int)) (hx : x = nI a) (hy : y = nI n - nI c) (ha : a < 2 ^ 30) (hn : n < 2 ^ 30) (hc : c < 2 ^ 30) (kt : n ≤ a + c → WP sh Y tgt lv st M Q) (kf : a + c < n → WP sh Y (pc + 3) lv st M Q) : WP sh Y pc lv (.int y :: .int x :: st) M Q := by
  subst hx hy
  exact xi_icmp_ge tgt hd ht (fun h => kt ((sub_le ha hn hc).mp h)) (fun h => kf (by rw [sub_le ha hn hc] at h; omega))
theorem n_inT {k l r : Nat} (h1 : l ≤ k) (h2 : k ≤ r) (hr : r < 2 ^ 31) (h : Q (some (.int (xb true))) M) : WP sh mX10_in 0 [some (.int (nI k)), some (.int (nI l)), some (.int (nI r))] [] M Q := n_in (by
  rw [decide_eq_true (show nI l ≤ nI k ∧ nI k ≤ nI r from ⟨nI_le h1 (by omega), nI_le h2 hr⟩)]
  exact h)
theorem n_inF {x : Int32} {l r : Nat} (hc : x < nI l ∨ nI r < x) (h : Q (some (.int (xb false))) M) : WP sh mX10_in 0 [some (.int x), some (.int (nI l)), some (.int (nI r))] [] M Q := n_in (by
  rw [decide_eq_false (fun q => hc.elim (fun z => absurd z (Int32.not_lt.mpr q.1)) (fun z => absurd z (Int32.not_lt.mpr q.2)))]
  exact h)
theorem n_in1T {k n : Nat} (hk : k < n) (hn : n < 2 ^ 31) (h : Q (some (.int (xb true))) M) : WP sh mX10_in 0 [some (.int (nI k)), some (.int 0), some (.int (nI n - 1))] [] M Q := n_in (by
  rw [decide_eq_true (show (0 : Int32) ≤ nI k ∧ nI k ≤ nI n - 1 from ⟨nI_pos' (by omega), by rw [Int32.le_iff_toInt_le, nI_sub1 hn, nI_toInt (by omega)]; omega⟩)]
  exact h)
theorem n_in1F {x : Int32} {n : Nat} (hn : n < 2 ^ 31) (hc : x < 0 ∨ nI n ≤ x) (h : Q (some (.int (xb false))) M) : WP sh mX10_in 0 [some (.int x), some (.int 0), some (.int (nI n - 1))] [] M Q := n_in (by
  rw [decide_eq_false (fun q => hc.elim (fun z => absurd z (Int32.not_lt.mpr q.1)) (fun z => by
    have h2 := q.2
    rw [Int32.le_iff_toInt_le, nI_sub1 hn] at h2
    rw [Int32.le_iff_toInt_le, nI_toInt hn] at z
    omega))]
  exact h)
theorem n_inS {k n c r : Nat} (hk : k < 2 ^ 30) (hn : n < 2 ^ 30) (hc : c < 2 ^ 30) (hr : r < 2 ^ 30) (h : Q (some (.int (xb (decide (n ≤ k + c ∧ k ≤ r))))) M) : WP sh mX10_in 0 [some (.int (nI k)), some (.int (nI n - nI c)), some (.int (nI r))] [] M Q := n_in (by
  rw [show decide (nI n - nI c ≤ nI k ∧ nI k ≤ nI r) = decide (n ≤ k + c ∧ k ≤ r) from decide_eq_decide.mpr (by rw [sub_le hk hn hc, nI_leI (by omega) (by omega)])]
  exact h)
end XS
