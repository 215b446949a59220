/-! whole numbers below 0, too -/
def xz (z : Int) : Int32 := Int32.ofInt z
theorem nI_xz (n : Nat) : nI n = xz n := Int32.ofInt_eq_ofNat.symm
theorem xz_nsub (a b : Nat) : nI a - nI b = xz ((a : Int) - (b : Int)) := by rw [nI_xz, nI_xz]; exact (Int32.ofInt_sub _ _).symm
theorem xz_2j (j : Nat) (z : Int) : nI (2 * j) * xz z = xz (2 * (j : Int) * z) := by
  rw [nI_xz, show ((2 * j : Nat) : Int) = 2 * (j : Int) by omega]
  exact (Int32.ofInt_mul _ _).symm
theorem xz_addn (z : Int) (n : Nat) : xz z + nI n = xz (z + n) := by rw [nI_xz]; exact (Int32.ofInt_add _ _).symm
theorem xz_idx {m : Nat} {q : Int} (h : 0 ≤ (m : Int) + q) : nI m + xz q = nI ((m : Int) + q).toNat := by
  rw [nI_xz, nI_xz, show (((m : Int) + q).toNat : Int) = (m : Int) + q by omega]
  exact (Int32.ofInt_add _ _).symm
theorem xz_toInt {z : Int} (h1 : -2147483648 ≤ z) (h2 : z < 2147483648) : (xz z).toInt = z := Int32.toInt_ofInt_of_le h1 h2
theorem xz_ge {z : Int} (h1 : -2147483648 ≤ z) (h2 : z < 2147483648) : 0 ≤ xz z ↔ 0 ≤ z := by
  rw [Int32.le_iff_toInt_le, xz_toInt h1 h2]; rfl
theorem xz_neg (z : Int) : -xz z = xz (-z) := (Int32.ofInt_neg z).symm
theorem xz_abs {z : Int} (h : 0 ≤ z) : xz z = nI z.natAbs := by rw [nI_xz]; congr 1; omega
theorem xz_absn {z : Int} (h : ¬ 0 ≤ z) : -xz z = nI z.natAbs := by rw [xz_neg, nI_xz]; congr 1; omega
def jfd (x y : Int32) : Int32 := if 0 ≤ x ^^^ y then x / y else if x / y * y = x then x / y else x / y - 1
/-! sight -/
def mdx (G : xG) (a b : Nat) : Int := ((b % gw G : Nat) : Int) - ((a % gw G : Nat) : Int)
def mdy (G : xG) (a b : Nat) : Int := ((b / gw G : Nat) : Int) - ((a / gw G : Nat) : Int)
def mnn (dx dy : Int) : Nat := max dx.natAbs dy.natAbs
def mq (j n : Nat) (z : Int) : Int := (2 * (j : Int) * z + n) / (2 * n : Nat)
def mcell (G : xG) (a : Nat) (dx dy : Int) (n j : Nat) : Nat := (((a / gw G : Nat) : Int) + mq j n dy).toNat * gw G + (((a % gw G : Nat) : Int) + mq j n dx).toNat
def mseeL (G : xG) (S : xS) (a : Nat) (dx dy : Int) (n : Nat) : Nat → Nat → Bool
  | _, 0 => true
  | j, f + 1 => if mbars G S (mcell G a dx dy n j) = true then false else mseeL G S a dx dy n (j + 1) f
def msee (G : xG) (S : xS) (a b R : Nat) : Bool := if mnn (mdx G a b) (mdy G a b) ≤ R then mseeL G S a (mdx G a b) (mdy G a b) (mnn (mdx G a b) (mdy G a b)) 1 (mnn (mdx G a b) (mdy G a b) - 1) else false
def mq_ok (n j i : Nat) : Bool := (if 0 ≤ ((i : Int) - 6) then decide (0 ≤ mq j n ((i : Int) - 6)) && decide (mq j n ((i : Int) - 6) ≤ (i : Int) - 6) else decide ((i : Int) - 6 ≤ mq j n ((i : Int) - 6)) && decide (mq j n ((i : Int) - 6) ≤ 0)) && decide (jfd (xz (2 * (j : Int) * ((i : Int) - 6) + (n : Int))) (nI (2 * n)) = xz (mq j n ((i : Int) - 6)))
theorem mq_all : ((List.range 7).all fun n => (List.range n).all fun j => (List.range 13).all fun i => mq_ok n j i) = true := by decide +kernel
theorem mq_one {n j : Nat} {z : Int} (hn : n ≤ 6) (hj : j < n) (hz : z.natAbs ≤ n) : ((0 ≤ z → 0 ≤ mq j n z ∧ mq j n z ≤ z) ∧ (z < 0 → z ≤ mq j n z ∧ mq j n z ≤ 0)) ∧ jfd (xz (2 * (j : Int) * z + n)) (nI (2 * n)) = xz (mq j n z) := by
  have h := List.all_eq_true.mp (List.all_eq_true.mp (List.all_eq_true.mp mq_all n (List.mem_range.mpr (by omega))) j (List.mem_range.mpr hj)) (z + 6).toNat (List.mem_range.mpr (by omega))
  unfold mq_ok at h
  rw [show (((z + 6).toNat : Nat) : Int) - 6 = z by omega, Bool.and_eq_true] at h
  refine ⟨⟨fun q => ?_, fun q => ?_⟩, of_decide_eq_true h.2⟩
  · have h1 := h.1
    rw [if_pos q, Bool.and_eq_true] at h1
    exact ⟨of_decide_eq_true h1.1, of_decide_eq_true h1.2⟩
  · have h1 := h.1
    rw [if_neg (by omega), Bool.and_eq_true] at h1
    exact ⟨of_decide_eq_true h1.1, of_decide_eq_true h1.2⟩
theorem mq_in {n j : Nat} {z : Int} (hn : n ≤ 6) (hj : j < n) (hz : z.natAbs ≤ n) : (0 ≤ z → 0 ≤ mq j n z ∧ mq j n z ≤ z) ∧ (z < 0 → z ≤ mq j n z ∧ mq j n z ≤ 0) := (mq_one hn hj hz).1
theorem jfd_q {n j : Nat} {z : Int} (hn : n ≤ 6) (hj : j < n) (hz : z.natAbs ≤ n) : jfd (xz (2 * (j : Int) * z + n)) (nI (2 * n)) = xz (mq j n z) := (mq_one hn hj hz).2
theorem mdx_bd {G : xG} (hW : wG G) (a b : Nat) : -10 < mdx G a b ∧ mdx G a b < 10 := by
  have h1 : b % gw G < gw G := Nat.mod_lt _ (by have := hW.1; omega)
  have h2 : a % gw G < gw G := Nat.mod_lt _ (by have := hW.1; omega)
  have := hW.2.1
  unfold mdx; omega
theorem mrow_lt {G : xG} {a : Nat} (ha : a < gN G) : a / gw G < gh G := Nat.div_lt_of_lt_mul ha
theorem mdy_bd {G : xG} (hW : wG G) {a b : Nat} (ha : a < gN G) (hb : b < gN G) : -10 < mdy G a b ∧ mdy G a b < 10 := by
  have h1 := mrow_lt ha
  have h2 := mrow_lt hb
  have := hW.2.2.2.1
  unfold mdy
  generalize a / gw G = ya at h1 ⊢
  generalize b / gw G = yb at h2 ⊢
  omega
theorem mcell_lt {G : xG} {a b n j : Nat} (hW : wG G) (ha : a < gN G) (hb : b < gN G) (hn : n ≤ 6) (hj : j < n) (hx : (mdx G a b).natAbs ≤ n) (hy : (mdy G a b).natAbs ≤ n) :
    0 ≤ ((a % gw G : Nat) : Int) + mq j n (mdx G a b) ∧ ((a % gw G : Nat) : Int) + mq j n (mdx G a b) < gw G ∧ 0 ≤ ((a / gw G : Nat) : Int) + mq j n (mdy G a b) ∧ ((a / gw G : Nat) : Int) + mq j n (mdy G a b) < gh G ∧ mcell G a (mdx G a b) (mdy G a b) n j < gN G := by
  have qx := mq_in hn hj hx
  have qy := mq_in hn hj hy
  have h1 : b % gw G < gw G := Nat.mod_lt _ (by have := hW.1; omega)
  have h2 : a % gw G < gw G := Nat.mod_lt _ (by have := hW.1; omega)
  have h3 := mrow_lt ha
  have h4 := mrow_lt hb
  have ex : mdx G a b = ((b % gw G : Nat) : Int) - ((a % gw G : Nat) : Int) := rfl
  have ey : mdy G a b = ((b / gw G : Nat) : Int) - ((a / gw G : Nat) : Int) := rfl
  have k1 : 0 ≤ ((a % gw G : Nat) : Int) + mq j n (mdx G a b) := by
    generalize a % gw G = ya at h2 ex ⊢
    generalize b % gw G = yb at h1 ex
    omega
  have k2 : ((a % gw G : Nat) : Int) + mq j n (mdx G a b) < gw G := by
    generalize a % gw G = ya at h2 ex ⊢
    generalize b % gw G = yb at h1 ex
    omega
  have k3 : 0 ≤ ((a / gw G : Nat) : Int) + mq j n (mdy G a b) := by
    generalize a / gw G = ya at h3 ey ⊢
    generalize b / gw G = yb at h4 ey
    omega
  have k4 : ((a / gw G : Nat) : Int) + mq j n (mdy G a b) < gh G := by
    generalize a / gw G = ya at h3 ey ⊢
    generalize b / gw G = yb at h4 ey
    omega
  refine ⟨k1, k2, k3, k4, ?_⟩
  show (((a / gw G : Nat) : Int) + mq j n (mdy G a b)).toNat * gw G + (((a % gw G : Nat) : Int) + mq j n (mdx G a b)).toNat < gw G * gh G
  have h5 : (((a / gw G : Nat) : Int) + mq j n (mdy G a b)).toNat + 1 ≤ gh G := by omega
  have h6 := Nat.mul_le_mul_left (gw G) h5
  rw [Nat.mul_add, Nat.mul_one, Nat.mul_comm (gw G) _] at h6
  omega
set_option maxHeartbeats 4000000 in
set_option maxRecDepth 100000 in
theorem k_abs {sh : List xSh} {M : xM} {Q : Option Value → xM → Prop} {z : Int} (h1 : -2147483648 ≤ z) (h2 : z < 2147483648) (h : Q (some (.int (nI z.natAbs))) M) : WP sh mJ9_abs_0f7a4 0 [some (.int (xz z))] [] M Q := by
  refine xi_iload_n dJ9_abs_0f7a4_0 rfl ?_
  refine xi_if_ge 9 dJ9_abs_0f7a4_1 (by decide) (fun h1b => ?_) (fun h1b => ?_)
  · skip
    refine xi_iload_n dJ9_abs_0f7a4_9 rfl ?_
    refine xi_iret (v := xz z) dJ9_abs_0f7a4_10 rfl ?_
    rw [← xz_abs ((xz_ge h1 h2).mp h1b)] at h
    exact h
  · skip
    refine xi_iload_n dJ9_abs_0f7a4_4 rfl ?_
    refine xi_ineg dJ9_abs_0f7a4_5 ?_
    refine xi_goto 10 dJ9_abs_0f7a4_6 (by decide) ?_
    refine xi_iret (v := (-(xz z))) dJ9_abs_0f7a4_10 rfl ?_
    rw [← xz_absn (fun q => h1b ((xz_ge h1 h2).mpr q))] at h
    exact h

set_option maxHeartbeats 4000000 in
set_option maxRecDepth 100000 in
theorem k_max {sh : List xSh} {M : xM} {Q : Option Value → xM → Prop} {a b : Nat} (ha : a < 2147483648) (hb : b < 2147483648) (h : Q (some (.int (nI (max a b)))) M) : WP sh mJ9_max_7cf53 0 [some (.int (nI a)), some (.int (nI b))] [] M Q := by
  refine xi_iload_n dJ9_max_7cf53_0 rfl ?_
  refine xi_iload_n dJ9_max_7cf53_1 rfl ?_
  refine xn_icmp_lt a b 9 dJ9_max_7cf53_2 (by decide) rfl rfl (by omega) (by omega) (fun h2 => ?_) (fun h2 => ?_)
  · skip
    refine xi_iload_n dJ9_max_7cf53_9 rfl ?_
    refine xi_iret (v := nI b) dJ9_max_7cf53_10 rfl ?_
    rw [show max a b = b by omega] at h
    exact h
  · skip
    refine xi_iload_n dJ9_max_7cf53_5 rfl ?_
    refine xi_goto 10 dJ9_max_7cf53_6 (by decide) ?_
    refine xi_iret (v := nI a) dJ9_max_7cf53_10 rfl ?_
    rw [show max a b = a by omega] at h
    exact h

set_option maxHeartbeats 4000000 in
set_option maxRecDepth 100000 in
theorem k_min {sh : List xSh} {M : xM} {Q : Option Value → xM → Prop} {a b : Nat} (ha : a < 2147483648) (hb : b < 2147483648) (h : Q (some (.int (nI (min a b)))) M) : WP sh mJ9_min_7cf53 0 [some (.int (nI a)), some (.int (nI b))] [] M Q := by
  refine xi_iload_n dJ9_min_7cf53_0 rfl ?_
  refine xi_iload_n dJ9_min_7cf53_1 rfl ?_
  refine xn_icmp_gt a b 9 dJ9_min_7cf53_2 (by decide) rfl rfl (by omega) (by omega) (fun h2 => ?_) (fun h2 => ?_)
  · skip
    refine xi_iload_n dJ9_min_7cf53_9 rfl ?_
    refine xi_iret (v := nI b) dJ9_min_7cf53_10 rfl ?_
    rw [show min a b = b by omega] at h
    exact h
  · skip
    refine xi_iload_n dJ9_min_7cf53_5 rfl ?_
    refine xi_goto 10 dJ9_min_7cf53_6 (by decide) ?_
    refine xi_iret (v := nI a) dJ9_min_7cf53_10 rfl ?_
    rw [show min a b = a by omega] at h
    exact h

set_option maxHeartbeats 4000000 in
set_option maxRecDepth 100000 in
theorem k_fd {sh : List xSh} {M : xM} {Q : Option Value → xM → Prop} {x y : Int32} (hy : ¬ y = 0) (h : Q (some (.int (jfd x y))) M) : WP sh mJ9_floorDiv_7cf53 0 [some (.int x), some (.int y), none] [] M Q := by
  refine xi_iload_n dJ9_floorDiv_7cf53_0 rfl ?_
  refine xi_iload_n dJ9_floorDiv_7cf53_1 rfl ?_
  refine xi_idiv dJ9_floorDiv_7cf53_2 hy ?_
  refine xi_istore_n (lv' := [some (.int x), some (.int y), some (.int (x / y))]) dJ9_floorDiv_7cf53_3 (by decide) rfl ?_
  refine xi_iload_n dJ9_floorDiv_7cf53_4 rfl ?_
  refine xi_iload_n dJ9_floorDiv_7cf53_5 rfl ?_
  refine xi_ixor dJ9_floorDiv_7cf53_6 ?_
  refine xi_if_ge 21 dJ9_floorDiv_7cf53_7 (by decide) (fun h7 => ?_) (fun h7 => ?_)
  · skip
    refine xi_iload_n dJ9_floorDiv_7cf53_21 rfl ?_
    refine xi_iret (v := (x / y)) dJ9_floorDiv_7cf53_22 rfl ?_
    have e : jfd x y = (x / y) := by unfold jfd; rw [if_pos h7]
    rw [e] at h
    exact h
  · skip
    refine xi_iload_n dJ9_floorDiv_7cf53_10 rfl ?_
    refine xi_iload_n dJ9_floorDiv_7cf53_11 rfl ?_
    refine xi_imul dJ9_floorDiv_7cf53_12 ?_
    refine xi_iload_n dJ9_floorDiv_7cf53_13 rfl ?_
    refine xi_icmp_eq 21 dJ9_floorDiv_7cf53_14 (by decide) (fun h14 => ?_) (fun h14 => ?_)
    · skip
      refine xi_iload_n dJ9_floorDiv_7cf53_21 rfl ?_
      refine xi_iret (v := (x / y)) dJ9_floorDiv_7cf53_22 rfl ?_
      have e : jfd x y = (x / y) := by unfold jfd; rw [if_neg h7, if_pos h14]
      rw [e] at h
      exact h
    · skip
      refine xi_iload_n dJ9_floorDiv_7cf53_17 rfl ?_
      refine xi_iconst (v := 1) dJ9_floorDiv_7cf53_18 rfl ?_
      refine xi_isub dJ9_floorDiv_7cf53_19 ?_
      refine xi_iret (v := ((x / y) - 1)) dJ9_floorDiv_7cf53_20 rfl ?_
      have e : jfd x y = ((x / y) - 1) := by unfold jfd; rw [if_neg h7, if_neg h14]
      rw [e] at h
      exact h

set_option maxHeartbeats 4000000 in
set_option maxRecDepth 100000 in
theorem l_reach {G : xG} {S : xS} {M : xM} {r : Nat} {Q : Option Value → xM → Prop} (hW : wG G) (hG : CG G M) (hr : isSt r) (hS : CS G S M r) {a b R n : Nat} (ha : a < gN G) (hb : b < gN G) (hn6 : n ≤ 6) (hxn : (mdx G a b).natAbs ≤ n) (hyn : (mdy G a b).natAbs ≤ n) : ∀ (f j : Nat), 1 ≤ j → j + f = max n 1 → Q (some (.int (xb (mseeL G S a (mdx G a b) (mdy G a b) n j f)))) M → WP shC mX6_reaches 68 [some (.ref r), some (.int (nI a)), some (.int (nI b)), some (.int (nI R)), some (.int (xz (mdx G a b))), some (.int (xz (mdy G a b))), some (.int (nI n)), some (.int (nI j)), none, none] [] M Q := by
  obtain ⟨b1, b2, b3, b4, b5, b6, b7, b8, b9, wmap, wlink, wk0, wk1, b10, b11, wword⟩ := id hW
  intro f
  induction f with
  | zero =>
    intro j hj hf h
    refine xi_iload dX6_reaches_68 rfl ?_
    refine xi_iload dX6_reaches_70 rfl ?_
    refine xn_icmp_ge j n 161 dX6_reaches_72 (by decide) rfl rfl (by omega) (by omega) (fun h72 => ?_) (fun h72 => ?_)
    · skip
      refine xi_iconst (v := 1) dX6_reaches_161 rfl ?_
      refine xi_zret (v := 1) dX6_reaches_162 rfl (by decide) ?_
      exact h
    · omega
  | succ f ih =>
    intro j hj hf h
    refine xi_iload dX6_reaches_68 rfl ?_
    refine xi_iload dX6_reaches_70 rfl ?_
    refine xn_icmp_ge j n 161 dX6_reaches_72 (by decide) rfl rfl (by omega) (by omega) (fun h72 => ?_) (fun h72 => ?_)
    · omega
    · skip
      have hc := mcell_lt hW ha hb hn6 (by omega) hxn hyn
      refine xi_aload_n dX6_reaches_75 rfl ?_
      refine xi_getR dX6_reaches_76 fgX6_39 (so hr) rfl ?_
      refine xi_getR dX6_reaches_79 fgX6_91 cc1 rfl ?_
      refine xi_iload_n dX6_reaches_82 rfl ?_
      have q1 : a % gw G < gw G := Nat.mod_lt _ (by omega)
      refine xe_iald (v := nI (a % gw G)) a dX6_reaches_83 cc4 (by decide) rfl (by omega) (cg_col hG (by omega)) ?_
      refine xi_iconst (v := 2) dX6_reaches_84 rfl ?_
      refine xi_iload dX6_reaches_85 rfl ?_
      refine xe_imul dX6_reaches_87 (v := nI (2 * j)) (pk_mul 2 j) ?_
      refine xi_iload dX6_reaches_88 rfl ?_
      refine xe_imul dX6_reaches_90 (v := xz (2 * (j : Int) * (mdx G a b))) (xz_2j j (mdx G a b)) ?_
      refine xi_iload dX6_reaches_91 rfl ?_
      refine xat 93 rfl ?_
      refine xe_iadd dX6_reaches_93 (v := xz (2 * (j : Int) * (mdx G a b) + n)) (xz_addn _ _) ?_
      refine xi_iconst (v := 2) dX6_reaches_94 rfl ?_
      refine xi_iload dX6_reaches_95 rfl ?_
      refine xe_imul dX6_reaches_97 (v := nI (2 * n)) (pk_mul 2 n) ?_
      refine xi_callS [.int (xz (2 * (j : Int) * (mdx G a b) + n)), .int (nI (2 * n))] [.int (nI (a % gw G))] dX6_reaches_98 zJ9_floorDiv_7cf53 mlX6_106 rfl rfl rfl (Nat.le_of_ble_eq_true rfl) (Nat.le_of_ble_eq_true rfl) ⟨by decide, by decide⟩ ?_
      refine k_fd (by rw [show (0 : Int32) = nI 0 from rfl]; exact fun q => by have := (nI_eq (by omega) (by omega)).mp q; omega) ?_
      rw [jfd_q hn6 (by omega) hxn]
      show WP _ _ 101 _ [.int (xz (mq j n (mdx G a b))), .int (nI (a % gw G))] _ _
      refine xe_iadd dX6_reaches_101 (v := nI ((((a % gw G : Nat) : Int) + mq j n (mdx G a b)).toNat)) (xz_idx hc.1) ?_
      refine xi_istore (lv' := [some (.ref r), some (.int (nI a)), some (.int (nI b)), some (.int (nI R)), some (.int (xz (mdx G a b))), some (.int (xz (mdy G a b))), some (.int (nI n)), some (.int (nI j)), some (.int (nI ((((a % gw G : Nat) : Int) + mq j n (mdx G a b)).toNat))), none]) dX6_reaches_102 (by decide) rfl ?_
      refine xi_aload_n dX6_reaches_104 rfl ?_
      refine xi_getR dX6_reaches_105 fgX6_39 (so hr) rfl ?_
      refine xi_getR dX6_reaches_108 fgX6_94 cc1 rfl ?_
      refine xi_iload_n dX6_reaches_111 rfl ?_
      have q2 : a / gw G ≤ a := Nat.div_le_self _ _
      refine xe_iald (v := nI (a / gw G)) a dX6_reaches_112 cc5 (by decide) rfl (by omega) (cg_row hG (by omega)) ?_
      refine xi_iconst (v := 2) dX6_reaches_113 rfl ?_
      refine xi_iload dX6_reaches_114 rfl ?_
      refine xe_imul dX6_reaches_116 (v := nI (2 * j)) (pk_mul 2 j) ?_
      refine xi_iload dX6_reaches_117 rfl ?_
      refine xat 119 rfl ?_
      refine xe_imul dX6_reaches_119 (v := xz (2 * (j : Int) * (mdy G a b))) (xz_2j j (mdy G a b)) ?_
      refine xi_iload dX6_reaches_120 rfl ?_
      refine xe_iadd dX6_reaches_122 (v := xz (2 * (j : Int) * (mdy G a b) + n)) (xz_addn _ _) ?_
      refine xi_iconst (v := 2) dX6_reaches_123 rfl ?_
      refine xi_iload dX6_reaches_124 rfl ?_
      refine xe_imul dX6_reaches_126 (v := nI (2 * n)) (pk_mul 2 n) ?_
      refine xi_callS [.int (xz (2 * (j : Int) * (mdy G a b) + n)), .int (nI (2 * n))] [.int (nI (a / gw G))] dX6_reaches_127 zJ9_floorDiv_7cf53 mlX6_106 rfl rfl rfl (Nat.le_of_ble_eq_true rfl) (Nat.le_of_ble_eq_true rfl) ⟨by decide, by decide⟩ ?_
      refine k_fd (by rw [show (0 : Int32) = nI 0 from rfl]; exact fun q => by have := (nI_eq (by omega) (by omega)).mp q; omega) ?_
      rw [jfd_q hn6 (by omega) hyn]
      show WP _ _ 130 _ [.int (xz (mq j n (mdy G a b))), .int (nI (a / gw G))] _ _
      refine xe_iadd dX6_reaches_130 (v := nI ((((a / gw G : Nat) : Int) + mq j n (mdy G a b)).toNat)) (xz_idx hc.2.2.1) ?_
      refine xi_istore (lv' := [some (.ref r), some (.int (nI a)), some (.int (nI b)), some (.int (nI R)), some (.int (xz (mdx G a b))), some (.int (xz (mdy G a b))), some (.int (nI n)), some (.int (nI j)), some (.int (nI ((((a % gw G : Nat) : Int) + mq j n (mdx G a b)).toNat))), some (.int (nI ((((a / gw G : Nat) : Int) + mq j n (mdy G a b)).toNat)))]) dX6_reaches_131 (by decide) rfl ?_
      refine xi_aload_n dX6_reaches_133 rfl ?_
      refine xi_iload dX6_reaches_134 rfl ?_
      refine xi_aload_n dX6_reaches_136 rfl ?_
      refine xi_getR dX6_reaches_137 fgX6_39 (so hr) rfl ?_
      refine xe_getI (v := nI (gw G)) dX6_reaches_140 fgX6_109 cc1 rfl (cg_w hG) ?_
      refine xe_imul dX6_reaches_143 (v := nI (((((a / gw G : Nat) : Int) + mq j n (mdy G a b)).toNat) * (gw G))) (pk_mul ((((a / gw G : Nat) : Int) + mq j n (mdy G a b)).toNat) (gw G)) ?_
      refine xi_iload dX6_reaches_144 rfl ?_
      refine xe_iadd dX6_reaches_146 (v := nI (mcell G a (mdx G a b) (mdy G a b) n j)) (nI_add _ _) ?_
      have hc5 := hc.2.2.2.2
      refine xi_callV [.int (nI (mcell G a (mdx G a b) (mdy G a b) n j))] [] dX6_reaches_147 zX6_bars mlX6_84 (so hr) rfl rfl rfl rfl rfl (Nat.le_of_ble_eq_true rfl) (Nat.le_of_ble_eq_true rfl) ⟨by decide, by decide⟩ ?_
      refine s_bars hW hG hr hS (k := mcell G a (mdx G a b) (mdy G a b) n j) (by omega) ?_
      show WP _ _ 150 _ [.int (xb (mbars G S (mcell G a (mdx G a b) (mdy G a b) n j)))] _ _
      refine xb_if_eq (mbars G S (mcell G a (mdx G a b) (mdy G a b) n j)) 155 dX6_reaches_150 (by decide) rfl (fun h150 => ?_) (fun h150 => ?_)
      · skip
        refine xi_iinc (v := nI (j + 1)) (lv' := [some (.ref r), some (.int (nI a)), some (.int (nI b)), some (.int (nI R)), some (.int (xz (mdx G a b))), some (.int (xz (mdy G a b))), some (.int (nI n)), some (.int (nI (j + 1))), some (.int (nI ((((a % gw G : Nat) : Int) + mq j n (mdx G a b)).toNat))), some (.int (nI ((((a / gw G : Nat) : Int) + mq j n (mdy G a b)).toNat)))]) dX6_reaches_155 rfl (xinc j) (by decide) rfl ?_
        refine xi_goto 68 dX6_reaches_158 (by decide) ?_
        refine xi_drop [true, true, true, true, true, true, true, true, false, false] rfl ?_
        rw [mseeL, if_neg (by simp [h150])] at h
        exact ih (j + 1) (by omega) (by omega) h
      · skip
        refine xi_iconst (v := 0) dX6_reaches_153 rfl ?_
        refine xi_zret (v := 0) dX6_reaches_154 rfl (by decide) ?_
        rw [mseeL, if_pos h150] at h
        exact h

set_option maxHeartbeats 4000000 in
set_option maxRecDepth 100000 in
theorem s_reach {G : xG} {S : xS} {M : xM} {r : Nat} {Q : Option Value → xM → Prop} (hW : wG G) (hG : CG G M) (hr : isSt r) (hS : CS G S M r) {a b R : Nat} (ha : a < gN G) (hb : b < gN G) (hR : R ≤ 6) (h : Q (some (.int (xb (msee G S a b R)))) M) : WP shC mX6_reaches 0 [some (.ref r), some (.int (nI a)), some (.int (nI b)), some (.int (nI R)), none, none, none, none, none, none] [] M Q := by
  obtain ⟨b1, b2, b3, b4, b5, b6, b7, b8, b9, wmap, wlink, wk0, wk1, b10, b11, wword⟩ := id hW
  refine xi_aload_n dX6_reaches_0 rfl ?_
  refine xi_getR dX6_reaches_1 fgX6_39 (so hr) rfl ?_
  refine xi_getR dX6_reaches_4 fgX6_91 cc1 rfl ?_
  refine xi_iload_n dX6_reaches_7 rfl ?_
  have q1 : b % gw G < gw G := Nat.mod_lt _ (by omega)
  refine xe_iald (v := nI (b % gw G)) b dX6_reaches_8 cc4 (by decide) rfl (by omega) (cg_col hG (by omega)) ?_
  refine xi_aload_n dX6_reaches_9 rfl ?_
  refine xi_getR dX6_reaches_10 fgX6_39 (so hr) rfl ?_
  refine xi_getR dX6_reaches_13 fgX6_91 cc1 rfl ?_
  refine xi_iload_n dX6_reaches_16 rfl ?_
  have q2 : a % gw G < gw G := Nat.mod_lt _ (by omega)
  refine xe_iald (v := nI (a % gw G)) a dX6_reaches_17 cc4 (by decide) rfl (by omega) (cg_col hG (by omega)) ?_
  refine xe_isub dX6_reaches_18 (v := xz (mdx G a b)) (xz_nsub _ _) ?_
  refine xat 19 rfl ?_
  refine xi_istore (lv' := [some (.ref r), some (.int (nI a)), some (.int (nI b)), some (.int (nI R)), some (.int (xz (mdx G a b))), none, none, none, none, none]) dX6_reaches_19 (by decide) rfl ?_
  refine xi_aload_n dX6_reaches_21 rfl ?_
  refine xi_getR dX6_reaches_22 fgX6_39 (so hr) rfl ?_
  refine xi_getR dX6_reaches_25 fgX6_94 cc1 rfl ?_
  refine xi_iload_n dX6_reaches_28 rfl ?_
  have q3 : b / gw G ≤ b := Nat.div_le_self _ _
  refine xe_iald (v := nI (b / gw G)) b dX6_reaches_29 cc5 (by decide) rfl (by omega) (cg_row hG (by omega)) ?_
  refine xi_aload_n dX6_reaches_30 rfl ?_
  refine xi_getR dX6_reaches_31 fgX6_39 (so hr) rfl ?_
  refine xi_getR dX6_reaches_34 fgX6_94 cc1 rfl ?_
  refine xi_iload_n dX6_reaches_37 rfl ?_
  have q4 : a / gw G ≤ a := Nat.div_le_self _ _
  refine xe_iald (v := nI (a / gw G)) a dX6_reaches_38 cc5 (by decide) rfl (by omega) (cg_row hG (by omega)) ?_
  refine xe_isub dX6_reaches_39 (v := xz (mdy G a b)) (xz_nsub _ _) ?_
  refine xat 40 rfl ?_
  refine xi_istore (lv' := [some (.ref r), some (.int (nI a)), some (.int (nI b)), some (.int (nI R)), some (.int (xz (mdx G a b))), some (.int (xz (mdy G a b))), none, none, none, none]) dX6_reaches_40 (by decide) rfl ?_
  refine xi_iload dX6_reaches_42 rfl ?_
  refine xi_callS [.int (xz (mdx G a b))] [] dX6_reaches_44 zJ9_abs_0f7a4 mlX6_97 rfl rfl rfl (Nat.le_of_ble_eq_true rfl) (Nat.le_of_ble_eq_true rfl) ⟨by decide, by decide⟩ ?_
  refine k_abs (z := (mdx G a b)) (by have := mdx_bd hW a b; omega) (by have := mdx_bd hW a b; omega) ?_
  show WP _ _ 47 _ [.int (nI ((mdx G a b).natAbs))] _ _
  refine xi_iload dX6_reaches_47 rfl ?_
  refine xi_callS [.int (xz (mdy G a b))] [.int (nI ((mdx G a b).natAbs))] dX6_reaches_49 zJ9_abs_0f7a4 mlX6_97 rfl rfl rfl (Nat.le_of_ble_eq_true rfl) (Nat.le_of_ble_eq_true rfl) ⟨by decide, by decide⟩ ?_
  refine k_abs (z := (mdy G a b)) (by have := mdy_bd hW ha hb; omega) (by have := mdy_bd hW ha hb; omega) ?_
  show WP _ _ 52 _ [.int (nI ((mdy G a b).natAbs)), .int (nI ((mdx G a b).natAbs))] _ _
  have hdx := mdx_bd hW a b
  have hdy := mdy_bd hW ha hb
  have hnn : mnn (mdx G a b) (mdy G a b) ≤ 10 := by unfold mnn; omega
  refine xi_callS [.int (nI ((mdx G a b).natAbs)), .int (nI ((mdy G a b).natAbs))] [] dX6_reaches_52 zJ9_max_7cf53 mlX6_102 rfl rfl rfl (Nat.le_of_ble_eq_true rfl) (Nat.le_of_ble_eq_true rfl) ⟨by decide, by decide⟩ ?_
  refine k_max (a := (mdx G a b).natAbs) (b := (mdy G a b).natAbs) (by omega) (by omega) ?_
  show WP _ _ 55 _ [.int (nI (mnn (mdx G a b) (mdy G a b)))] _ _
  refine xi_istore (lv' := [some (.ref r), some (.int (nI a)), some (.int (nI b)), some (.int (nI R)), some (.int (xz (mdx G a b))), some (.int (xz (mdy G a b))), some (.int (nI (mnn (mdx G a b) (mdy G a b)))), none, none, none]) dX6_reaches_55 (by decide) rfl ?_
  refine xi_iload dX6_reaches_57 rfl ?_
  refine xi_iload_n dX6_reaches_59 rfl ?_
  refine xn_icmp_le (mnn (mdx G a b) (mdy G a b)) R 65 dX6_reaches_60 (by decide) rfl rfl (by omega) (by omega) (fun h60 => ?_) (fun h60 => ?_)
  · skip
    refine xi_iconst (v := 1) dX6_reaches_65 rfl ?_
    refine xi_istore (lv' := [some (.ref r), some (.int (nI a)), some (.int (nI b)), some (.int (nI R)), some (.int (xz (mdx G a b))), some (.int (xz (mdy G a b))), some (.int (nI (mnn (mdx G a b) (mdy G a b)))), some (.int 1), none, none]) dX6_reaches_66 (by decide) rfl ?_
    have hx9 : (mdx G a b).natAbs ≤ mnn (mdx G a b) (mdy G a b) := by unfold mnn; omega
    have hy9 : (mdy G a b).natAbs ≤ mnn (mdx G a b) (mdy G a b) := by unfold mnn; omega
    rw [msee, if_pos h60] at h
    exact l_reach hW hG hr hS ha hb (by omega) hx9 hy9 _ 1 (by omega) (by omega) h
  · skip
    refine xi_iconst (v := 0) dX6_reaches_63 rfl ?_
    refine xi_zret (v := 0) dX6_reaches_64 rfl (by decide) ?_
    rw [msee, if_neg (by omega)] at h
    exact h

