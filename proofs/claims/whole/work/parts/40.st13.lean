/-! longs that are small naturals -/
def nJ (n : Nat) : Int64 := Int64.ofNat n
theorem nJ_toInt {n : Nat} (h : n < 2 ^ 63) : (nJ n).toInt = n := lg_ofNat_toInt h
theorem nJ_add (a b : Nat) : nJ a + nJ b = nJ (a + b) := (Int64.ofNat_add a b).symm
theorem nJ_mul (a b : Nat) : nJ a * nJ b = nJ (a * b) := (Int64.ofNat_mul a b).symm
theorem nJ_sub {a b : Nat} (h : b ≤ a) : nJ a - nJ b = nJ (a - b) := by
  obtain ⟨c, rfl⟩ : ∃ c, a = c + b := ⟨a - b, by omega⟩
  rw [← nJ_add, Int64.add_sub_cancel, Nat.add_sub_cancel]
theorem nJ_i2l {n : Nat} (h : n < 2 ^ 31) : (nI n).toInt64 = nJ n := by
  apply Int64.toInt_inj.mp
  rw [Int32.toInt_toInt64, nI_toInt h, nJ_toInt (by omega)]
theorem nJ_l2i {n : Nat} (h : n < 2 ^ 31) : (nJ n).toInt32 = nI n := by
  rw [← nJ_i2l h, lg_l2i_i2l]
theorem nJ_shr {n : Nat} (h : n < 2 ^ 62) : nJ n >>> ((20 : Int32).toInt64 &&& 63) = nJ (n / 1048576) := by
  apply Int64.toInt_inj.mp
  rw [Jvm.Kit.i64_shr _ _ (k := 20) (by decide), nJ_toInt (by omega), nJ_toInt (Nat.lt_of_le_of_lt (Nat.div_le_self _ _) (by omega))]
  omega
theorem nJ_div {n : Nat} (h : n < 2 ^ 62) : nJ n / nJ 1048576 = nJ (n / 1048576) := by
  apply Int64.toInt_inj.mp
  rw [lg_ldiv_nonneg (by rw [nJ_toInt (by omega)]; omega) (by decide), nJ_toInt (by omega), nJ_toInt (Nat.lt_of_le_of_lt (Nat.div_le_self _ _) (by omega)), nJ_toInt (by decide)]
  omega
theorem nJ_le {a b : Nat} (ha : a < 2 ^ 63) (hb : b < 2 ^ 63) : nJ a ≤ nJ b ↔ a ≤ b := by
  rw [Int64.le_iff_toInt_le, nJ_toInt ha, nJ_toInt hb]; omega
theorem xtopj {sh : List xSh} {Y : xY} {pc : Nat} {lv : List (Option Value)} {st : List Value} {M : xM} {Q : Option Value → xM → Prop} {x y : Int64} (h : x = y) (k : WP sh Y pc lv (.long y :: st) M Q) : WP sh Y pc lv (.long x :: st) M Q := h ▸ k
/-! the trials of a player and kind: how many, successes, told, the row T -/
abbrev xO : Type := Nat × Nat × Nat × (Nat → Nat)
def on (o : xO) : Nat := o.1
def os (o : xO) : Nat := o.2.1
def om (o : xO) : Nat := o.2.2.1
def oT (o : xO) : Nat → Nat := o.2.2.2
def wO (o : xO) : Prop := on o ≤ 64 ∧ os o ≤ on o ∧ om o ≤ 501 ∧ (∀ k, oT o k ≤ 1048576) ∧ ∀ k, on o < k → oT o k = 0
def mspr (T : Nat → Nat) (c k : Nat) : Nat := (T k * (1048576 - c) + (if k = 0 then 0 else T (k - 1)) * c) / 1048576
theorem mspr_num {T : Nat → Nat} {c : Nat} (hT : ∀ k, T k ≤ 1048576) (hc : c ≤ 1048576) (a b : Nat) (ha : a ≤ 1048576) (hb : b ≤ 1048576) : a * (1048576 - c) + b * c ≤ 1099511627776 := by
  have h1 : a * (1048576 - c) ≤ 1048576 * (1048576 - c) := Nat.mul_le_mul_right _ ha
  have h2 : b * c ≤ 1048576 * c := Nat.mul_le_mul_right _ hb
  omega
theorem mspr_n {T : Nat → Nat} {c k : Nat} (hT : ∀ k, T k ≤ 1048576) (hc : c ≤ 1048576) : T k * (1048576 - c) + (if k = 0 then 0 else T (k - 1)) * c ≤ 1099511627776 := by
  refine mspr_num hT hc _ _ (hT k) ?_
  split
  · omega
  · exact hT _
theorem mspr_le {T : Nat → Nat} {c k : Nat} (hT : ∀ k, T k ≤ 1048576) (hc : c ≤ 1048576) : mspr T c k ≤ 1048576 := by
  have := mspr_n (k := k) hT hc
  unfold mspr
  omega
theorem mspr_0 {T : Nat → Nat} {c k : Nat} (h1 : T (k + 1) = 0) (h2 : T k = 0) : mspr T c (k + 1) = 0 := by
  unfold mspr
  rw [h1, if_neg (by omega), Nat.add_sub_cancel, h2]
  simp
def mtlS (T : Nat → Nat) : Nat → Nat → Nat → Nat
  | _, 0, a => a
  | k, f + 1, a => mtlS T (k + 1) f (a + T k)
theorem mtlS_le {T : Nat → Nat} (hT : ∀ k, T k ≤ 1048576) : ∀ (f k a : Nat), mtlS T k f a ≤ a + 1048576 * f
  | 0, k, a => by rw [mtlS]; omega
  | f + 1, k, a => by rw [mtlS]; have := mtlS_le hT f (k + 1) (a + T k); have := hT k; omega
def mtail (T : Nat → Nat) (s : Nat) : Nat := mtlS T s (65 - s) 0
/-- one more trial -/
def madd (o : xO) (c : Nat) (b : Bool) (risk now : Nat) : xO :=
  if on o < 64 then (on o + 1, os o + (if b = true then 1 else 0), (if om o = 0 ∧ mtail (mspr (oT o) c) (os o + (if b = true then 1 else 0)) ≤ risk then now + 1 else om o), mspr (oT o) c) else o
theorem wO_add {o : xO} {c risk now : Nat} {b : Bool} (h : wO o) (hc : c ≤ 1048576) (hn : now ≤ 500) : wO (madd o c b risk now) := by
  unfold madd
  split
  · rename_i q
    refine ⟨?_, ?_, ?_, ?_, ?_⟩
    · show on o + 1 ≤ 64; omega
    · show os o + (if b = true then 1 else 0) ≤ on o + 1; have := h.2.1; split <;> omega
    · show (if om o = 0 ∧ mtail (mspr (oT o) c) (os o + (if b = true then 1 else 0)) ≤ risk then now + 1 else om o) ≤ 501; have := h.2.2.1; generalize mtail (mspr (oT o) c) (os o + (if b = true then 1 else 0)) = z; split <;> omega
    · exact fun k => mspr_le h.2.2.2.1 hc
    · intro k hk
      replace hk : on o + 1 < k := hk
      obtain ⟨j, rfl⟩ : ∃ j, k = j + 1 := ⟨k - 1, by omega⟩
      exact mspr_0 (h.2.2.2.2 _ (by omega)) (h.2.2.2.2 _ (by omega))
  · exact h
/-- in the class's cells, at r -/
def CO (o : xO) (M : xM) (r : Nat) : Prop := (∀ k, k < 65 → M.2.1 (r + 1) k = nI (oT o k)) ∧ M.1 r 1 = nI (on o) ∧ M.1 r 2 = nI (os o) ∧ M.1 r 3 = nI (om o)
def FO (r : Nat) (M M2 : xM) : Prop := (∀ a, ¬ a = r → M2.1 a = M.1 a) ∧ M2.2.2 = M.2.2 ∧ ∀ a, ¬ a = r + 1 → M2.2.1 a = M.2.1 a
theorem FO.rf {r : Nat} {M : xM} : FO r M M := ⟨fun _ _ => rfl, rfl, fun _ _ => rfl⟩
theorem FO.tr {r : Nat} {M M1 M2 : xM} (h : FO r M M1) (h2 : FO r M1 M2) : FO r M M2 := ⟨fun a ha => (h2.1 a ha).trans (h.1 a ha), h2.2.1.trans h.2.1, fun a ha => (h2.2.2 a ha).trans (h.2.2 a ha)⟩
theorem FO.xa {r : Nat} {M : xM} {f : Nat → Int32} : FO r M (xa M (r + 1) f) := ⟨fun _ _ => rfl, rfl, fun _ ha => xa_n ha⟩
theorem FO.xf {r k : Nat} {M : xM} {v : Int32} : FO r M (xf M r k v) := ⟨fun _ ha => if_neg ha, rfl, fun _ _ => rfl⟩
theorem xf_s {M : xM} {o k : Nat} {v : Int32} : (xf M o k v).1 o k = v := by show va_up M.1 o (upd (M.1 o) k v) o k = v; rw [up_s]; exact if_pos rfl
theorem xf_k {M : xM} {o k j : Nat} {v : Int32} (h : ¬ j = k) : (xf M o k v).1 o j = M.1 o j := by show va_up M.1 o (upd (M.1 o) k v) o j = _; rw [up_s]; exact if_neg h
theorem xf_o {M : xM} {o a k : Nat} {v : Int32} (h : ¬ a = o) : (xf M o k v).1 a = M.1 a := if_neg h
set_option maxHeartbeats 4000000 in
set_option maxRecDepth 100000 in
theorem ol_spread {r : Nat} {Q : Option Value → xM → Prop} (hr : isOd r) {T : Nat → Nat} {c : Nat} (hT : ∀ k, T k ≤ 1048576) (hc : c ≤ 1048576) : ∀ (j : Nat) (M : xM), j ≤ 64 → (∀ i, i < 65 → M.2.1 (r + 1) i = nI (if j < i then mspr T c i else T i)) → (∀ M2, (M2.1 = M.1 ∧ M2.2.2 = M.2.2 ∧ ∀ a, ¬ a = r + 1 → M2.2.1 a = M.2.1 a) → (∀ i, i < 65 → M2.2.1 (r + 1) i = nI (mspr T c i)) → Q none M2) → WP shC mX4_spread 12 [some (.ref r), some (.int (nI c)), some (.long (nJ (1048576 - c))), none, some (.int (nI j))] [] M Q := by
  intro j
  induction j with
  | zero =>
    intro M hj hR h
    refine xi_iload dX4_spread_12 rfl ?_
    refine xn_if_le 0 58 dX4_spread_14 (by decide) rfl (by omega) (fun h14 => ?_) (fun h14 => ?_)
    · skip
      refine xi_aload_n dX4_spread_58 rfl ?_
      refine xi_getR dX4_spread_59 fgX4_9 (odo hr) rfl ?_
      refine xi_iconst (v := 0) dX4_spread_62 rfl ?_
      refine xi_aload_n dX4_spread_63 rfl ?_
      refine xi_getR dX4_spread_64 fgX4_9 (odo hr) rfl ?_
      refine xi_iconst (v := 0) dX4_spread_67 rfl ?_
      refine xe_iald (v := nI (T 0)) 0 dX4_spread_68 (oda hr) (by decide) rfl (by omega) ((hR 0 (by omega)).trans rfl) ?_
      have hT0 := hT 0
      refine xi_i2l dX4_spread_69 ?_
      refine xtopj (y := nJ (T 0)) (nJ_i2l (by omega)) ?_
      refine xi_lload_n dX4_spread_70 rfl ?_
      refine xi_lmul dX4_spread_71 ?_
      refine xtopj (y := nJ ((T 0) * (1048576 - c))) (nJ_mul _ _) ?_
      refine xi_bipush (v := 20) dX4_spread_72 (by decide) ?_
      refine xat 74 rfl ?_
      refine xi_lshr dX4_spread_74 ?_
      refine xtopj (y := nJ (mspr T c 0)) ((nJ_shr (by have := mspr_n (k := 0) hT hc; rw [if_pos rfl] at this; omega)).trans (congrArg nJ (by unfold mspr; rw [if_pos rfl, Nat.zero_mul, Nat.add_zero]))) ?_
      refine xi_l2i dX4_spread_75 ?_
      refine xtop (y := nI (mspr T c 0)) (nJ_l2i (by have := mspr_le (k := 0) hT hc; omega)) ?_
      refine xe_iast 0 dX4_spread_76 (oda hr) (by decide) rfl (by omega) ?_
      refine xi_vret dX4_spread_77 rfl ?_
      refine h _ ⟨rfl, rfl, fun _ ha => xa_n ha⟩ (fun i hi => ?_)
      rw [xa_s]
      by_cases q : i = 0
      · subst q; rw [upd_s]
      · rw [upd_n q, hR i hi, if_pos (by omega)]
    · omega
  | succ j ih =>
    intro M hj hR h
    have n1 := mspr_n (k := j + 1) hT hc
    rw [if_neg (by omega), Nat.add_sub_cancel] at n1
    have t1 := hT (j + 1)
    have t0 := hT j
    have m1 := mspr_le (k := j + 1) hT hc
    have e1 : mspr T c (j + 1) = (T (j + 1) * (1048576 - c) + T j * c) / 1048576 := by unfold mspr; rw [if_neg (by omega), Nat.add_sub_cancel]
    refine xi_iload dX4_spread_12 rfl ?_
    refine xn_if_le (j + 1) 58 dX4_spread_14 (by decide) rfl (by omega) (fun h14 => ?_) (fun h14 => ?_)
    · omega
    · skip
      refine xi_aload_n dX4_spread_17 rfl ?_
      refine xi_getR dX4_spread_18 fgX4_9 (odo hr) rfl ?_
      refine xi_iload dX4_spread_21 rfl ?_
      refine xi_aload_n dX4_spread_23 rfl ?_
      refine xi_getR dX4_spread_24 fgX4_9 (odo hr) rfl ?_
      refine xi_iload dX4_spread_27 rfl ?_
      refine xe_iald (v := nI (T (j + 1))) (j + 1) dX4_spread_29 (oda hr) (by decide) rfl (by omega) ((hR (j + 1) (by omega)).trans (by rw [if_neg (by omega)])) ?_
      refine xi_i2l dX4_spread_30 ?_
      refine xtopj (y := nJ (T (j + 1))) (nJ_i2l (by omega)) ?_
      refine xi_lload_n dX4_spread_31 rfl ?_
      refine xi_lmul dX4_spread_32 ?_
      refine xtopj (y := nJ ((T (j + 1)) * (1048576 - c))) (nJ_mul _ _) ?_
      refine xi_aload_n dX4_spread_33 rfl ?_
      refine xat 34 rfl ?_
      refine xi_getR dX4_spread_34 fgX4_9 (odo hr) rfl ?_
      refine xi_iload dX4_spread_37 rfl ?_
      refine xi_iconst (v := 1) dX4_spread_39 rfl ?_
      refine xe_isub dX4_spread_40 (v := nI j) (pk_sub (a := j + 1) (b := 1) (by omega)) ?_
      refine xe_iald (v := nI (T j)) j dX4_spread_41 (oda hr) (by decide) rfl (by omega) ((hR j (by omega)).trans (by rw [if_neg (by omega)])) ?_
      refine xi_i2l dX4_spread_42 ?_
      refine xtopj (y := nJ (T j)) (nJ_i2l (by omega)) ?_
      refine xi_iload_n dX4_spread_43 rfl ?_
      refine xi_i2l dX4_spread_44 ?_
      refine xtopj (y := nJ c) (nJ_i2l (by omega)) ?_
      refine xi_lmul dX4_spread_45 ?_
      refine xtopj (y := nJ ((T j) * c)) (nJ_mul _ _) ?_
      refine xi_ladd dX4_spread_46 ?_
      refine xtopj (y := nJ (((T (j + 1)) * (1048576 - c)) + ((T j) * c))) (nJ_add _ _) ?_
      refine xi_bipush (v := 20) dX4_spread_47 (by decide) ?_
      refine xi_lshr dX4_spread_49 ?_
      refine xtopj (y := nJ (mspr T c (j + 1))) ((nJ_shr (by omega)).trans (congrArg nJ e1.symm)) ?_
      refine xat 50 rfl ?_
      refine xi_l2i dX4_spread_50 ?_
      refine xtop (y := nI (mspr T c (j + 1))) (nJ_l2i (by omega)) ?_
      refine xe_iast (j + 1) dX4_spread_51 (oda hr) (by decide) rfl (by omega) ?_
      refine xi_iinc (v := nI j) (lv' := [some (.ref r), some (.int (nI c)), some (.long (nJ (1048576 - c))), none, some (.int (nI j))]) dX4_spread_52 rfl (xdec j) (by decide) rfl ?_
      refine xi_goto 12 dX4_spread_55 (by decide) ?_
      refine ih _ (by omega) (fun i hi => ?_) (fun M99 f99 h99 => h M99 ⟨f99.1, f99.2.1, fun a ha => (f99.2.2 a ha).trans (xa_n ha)⟩ h99)
      rw [xa_s]
      by_cases q : i = j + 1
      · subst q; rw [upd_s, if_pos (by omega)]
      · rw [upd_n q, hR i hi]; congr 1; split <;> split <;> first | rfl | omega

set_option maxHeartbeats 4000000 in
set_option maxRecDepth 100000 in
theorem o_spread {M : xM} {r : Nat} {Q : Option Value → xM → Prop} (hr : isOd r) {T : Nat → Nat} {c : Nat} (hT : ∀ k, T k ≤ 1048576) (hc : c ≤ 1048576) {n : Nat} (hn64 : n ≤ 64) (hn : M.1 r 1 = nI n) (hR : ∀ i, i < 65 → M.2.1 (r + 1) i = nI (T i)) (hz2 : ∀ k, n < k → T k = 0) (hz2b : ∀ k, n < k + 1 → mspr T c (k + 1) = 0) (h : ∀ M2, (M2.1 = M.1 ∧ M2.2.2 = M.2.2 ∧ ∀ a, ¬ a = r + 1 → M2.2.1 a = M.2.1 a) → (∀ i, i < 65 → M2.2.1 (r + 1) i = nI (mspr T c i)) → Q none M2) : WP shC mX4_spread 0 [some (.ref r), some (.int (nI c)), none, none, none] [] M Q := by
  refine xi_ldc (v := 1048576) dX4_spread_0 kcX4_21 ?_
  refine xi_iload_n dX4_spread_2 rfl ?_
  refine xe_isub dX4_spread_3 (v := nI (1048576 - c)) (pk_sub (a := 1048576) (b := c) (by omega)) ?_
  refine xi_i2l dX4_spread_4 ?_
  refine xtopj (y := nJ (1048576 - c)) (nJ_i2l (by omega)) ?_
  refine xi_lstore_n (lv' := [some (.ref r), some (.int (nI c)), some (.long (nJ (1048576 - c))), none, none]) dX4_spread_5 (by decide) rfl ?_
  refine xi_aload_n dX4_spread_6 rfl ?_
  refine xe_getI (v := nI n) dX4_spread_7 fgX4_22 (odo hr) rfl hn ?_
  refine xi_istore (lv' := [some (.ref r), some (.int (nI c)), some (.long (nJ (1048576 - c))), none, some (.int (nI n))]) dX4_spread_10 (by decide) rfl ?_
  refine ol_spread hr hT hc n M hn64 (fun i hi => ?_) h
  rw [hR i hi]
  congr 1
  split
  · rename_i q
    obtain ⟨k, rfl⟩ : ∃ k, i = k + 1 := ⟨i - 1, by omega⟩
    rw [hz2 (k + 1) (by omega), hz2b k (by omega)]
  · rfl

set_option maxHeartbeats 4000000 in
set_option maxRecDepth 100000 in
theorem ol_tail {M : xM} {r : Nat} {Q : Option Value → xM → Prop} (hr : isOd r) {T : Nat → Nat} (hT : ∀ k, T k ≤ 1048576) (hR : ∀ i, i < 65 → M.2.1 (r + 1) i = nI (T i)) : ∀ (f k a : Nat), k + f = 65 → a + 1048576 * f < 2 ^ 31 → Q (some (.int (nI (mtlS T k f a)))) M → WP shC mX4_tail 7 [some (.ref r), some (.int (nI a)), some (.int (nI k))] [] M Q := by
  intro f
  induction f with
  | zero =>
    intro k a hf ha h
    refine xi_iload_n dX4_tail_7 rfl ?_
    refine xi_bipush (v := 64) dX4_tail_8 (by decide) ?_
    refine xn_icmp_gt k 64 28 dX4_tail_10 (by decide) rfl rfl (by omega) (by omega) (fun h10 => ?_) (fun h10 => ?_)
    · skip
      refine xi_iload_n dX4_tail_28 rfl ?_
      refine xi_iret (v := nI a) dX4_tail_29 rfl ?_
      exact h
    · omega
  | succ f ih =>
    intro k a hf ha h
    refine xi_iload_n dX4_tail_7 rfl ?_
    refine xi_bipush (v := 64) dX4_tail_8 (by decide) ?_
    refine xn_icmp_gt k 64 28 dX4_tail_10 (by decide) rfl rfl (by omega) (by omega) (fun h10 => ?_) (fun h10 => ?_)
    · omega
    · skip
      refine xi_iload_n dX4_tail_13 rfl ?_
      refine xi_aload_n dX4_tail_14 rfl ?_
      refine xi_getR dX4_tail_15 fgX4_9 (odo hr) rfl ?_
      refine xi_iload_n dX4_tail_18 rfl ?_
      refine xe_iald (v := nI (T k)) k dX4_tail_19 (oda hr) (by decide) rfl (by omega) (hR k (by omega)) ?_
      refine xe_iadd dX4_tail_20 (v := nI (a + (T k))) (nI_add a (T k)) ?_
      refine xi_istore_n (lv' := [some (.ref r), some (.int (nI (a + (T k)))), some (.int (nI k))]) dX4_tail_21 (by decide) rfl ?_
      refine xi_iinc (v := nI (k + 1)) (lv' := [some (.ref r), some (.int (nI (a + (T k)))), some (.int (nI (k + 1)))]) dX4_tail_22 rfl (xinc k) (by decide) rfl ?_
      refine xi_goto 7 dX4_tail_25 (by decide) ?_
      exact ih (k + 1) (a + T k) (by omega) (by have := hT k; omega) h

set_option maxHeartbeats 4000000 in
set_option maxRecDepth 100000 in
theorem o_tail {M : xM} {r : Nat} {Q : Option Value → xM → Prop} (hr : isOd r) {T : Nat → Nat} (hT : ∀ k, T k ≤ 1048576) (hR : ∀ i, i < 65 → M.2.1 (r + 1) i = nI (T i)) {s : Nat} (hs64 : s ≤ 64) (hs : M.1 r 2 = nI s) (h : Q (some (.int (nI (mtail T s)))) M) : WP shC mX4_tail 0 [some (.ref r), none, none] [] M Q := by
  refine xi_iconst (v := 0) dX4_tail_0 rfl ?_
  refine xi_istore_n (lv' := [some (.ref r), some (.int 0), none]) dX4_tail_1 (by decide) rfl ?_
  refine xi_aload_n dX4_tail_2 rfl ?_
  refine xe_getI (v := nI s) dX4_tail_3 fgX4_26 (odo hr) rfl hs ?_
  refine xi_istore_n (lv' := [some (.ref r), some (.int 0), some (.int (nI s))]) dX4_tail_6 (by decide) rfl ?_
  exact ol_tail hr hT hR (65 - s) s 0 (by omega) (by omega) h

