/-! the bits of a letter, as a number -/
def ub (b : Int64) : Nat := b.toBitVec.toNat
theorem ub_lt (b : Int64) : ub b < 18446744073709551616 := b.toBitVec.isLt
theorem ub_int (b : Int64) : b.toInt = (ub b : Int) ∧ 2 * ub b < 18446744073709551616 ∨ b.toInt = (ub b : Int) - 18446744073709551616 ∧ 18446744073709551616 ≤ 2 * ub b := by
  have h : b.toInt = if 2 * ub b < 18446744073709551616 then (ub b : Int) else (ub b : Int) - 18446744073709551616 := BitVec.toInt_eq_toNat_cond _
  split at h
  · exact Or.inl ⟨h, by assumption⟩
  · exact Or.inr ⟨h, by omega⟩
theorem ub_nJ {n : Nat} (h : n < 18446744073709551616) : ub (nJ n) = n := Nat.mod_eq_of_lt h
theorem ub_and (x : Int64) {m : Int64} (k : Nat) (hm : m.toBitVec.toNat = 2 ^ k - 1) : x &&& m = nJ (ub x % 2 ^ k) := by
  apply Int64.toBitVec_inj.mp
  apply BitVec.eq_of_toNat_eq
  rw [Int64.toBitVec_and, BitVec.toNat_and, hm, Nat.and_two_pow_sub_one_eq_mod]
  show _ = (BitVec.ofNat 64 _).toNat
  rw [BitVec.toNat_ofNat]
  exact (Nat.mod_eq_of_lt (Nat.lt_of_le_of_lt (Nat.mod_le _ _) x.toBitVec.isLt)).symm
theorem ub_l2i (x : Int64) : x.toInt32.toBitVec.toNat = ub x % 4294967296 := by
  have h1 : x.toInt32.toInt = x.toInt.bmod (2 ^ 32) := Int64.toInt_toInt32 x
  have h2 : x.toInt32.toInt = if 2 * x.toInt32.toBitVec.toNat < 4294967296 then (x.toInt32.toBitVec.toNat : Int) else (x.toInt32.toBitVec.toNat : Int) - 4294967296 := BitVec.toInt_eq_toNat_cond _
  have h3 := x.toInt32.toBitVec.isLt
  have h4 := ub_lt x
  rw [h1] at h2
  rw [Int.bmod_def] at h2
  rcases ub_int x with ⟨e, e2⟩ | ⟨e, e2⟩ <;> rw [e] at h2 <;> split at h2 <;> split at h2 <;> omega
theorem ub_ushr (x : Int64) (s : UInt64) (k : Nat) (hs : s.toNat % 64 = k) : ub (x.toUInt64 >>> s).toInt64 = ub x / 2 ^ k := by
  show (x.toUInt64 >>> s).toNat = _
  rw [UInt64.toNat_shiftRight, Nat.shiftRight_eq_div_pow, hs]
  rfl
theorem ub_eq {x : Int64} : x = nJ (ub x) := by
  apply Int64.toBitVec_inj.mp
  apply BitVec.eq_of_toNat_eq
  show _ = (BitVec.ofNat 64 (ub x)).toNat
  rw [BitVec.toNat_ofNat]
  exact (Nat.mod_eq_of_lt (ub_lt x)).symm
theorem ub_s0 (b : Int64) : ub (b >>> ((0 : Int32).toInt64 &&& 63)) % 16 = ub b / 1 % 16 := by
  have h := Jvm.Kit.i64_shr b ((0 : Int32).toInt64 &&& 63) (k := 0) (by decide)
  have h1 := ub_lt b
  have h2 := ub_lt (b >>> ((0 : Int32).toInt64 &&& 63))
  rcases ub_int b with ⟨e, e2⟩ | ⟨e, e2⟩ <;> rcases ub_int (b >>> ((0 : Int32).toInt64 &&& 63)) with ⟨e3, e4⟩ | ⟨e3, e4⟩ <;> rw [e, e3] at h <;> omega
theorem ub_p0 (b : Int64) : (b >>> ((0 : Int32).toInt64 &&& 63)).toInt32 &&& 15 = nI (ub b / 1 % 16) := by
  rw [pk_and _ 4 (by decide), ub_l2i, show (2 : Nat) ^ 4 = 16 from rfl, ← ub_s0 b]
  congr 1
  omega
theorem ub_s4 (b : Int64) : ub (b >>> ((4 : Int32).toInt64 &&& 63)) % 4 = ub b / 16 % 4 := by
  have h := Jvm.Kit.i64_shr b ((4 : Int32).toInt64 &&& 63) (k := 4) (by decide)
  have h1 := ub_lt b
  have h2 := ub_lt (b >>> ((4 : Int32).toInt64 &&& 63))
  rcases ub_int b with ⟨e, e2⟩ | ⟨e, e2⟩ <;> rcases ub_int (b >>> ((4 : Int32).toInt64 &&& 63)) with ⟨e3, e4⟩ | ⟨e3, e4⟩ <;> rw [e, e3] at h <;> omega
theorem ub_p4 (b : Int64) : (b >>> ((4 : Int32).toInt64 &&& 63)).toInt32 &&& 3 = nI (ub b / 16 % 4) := by
  rw [pk_and _ 2 (by decide), ub_l2i, show (2 : Nat) ^ 2 = 4 from rfl, ← ub_s4 b]
  congr 1
  omega
theorem ub_s6 (b : Int64) : ub (b >>> ((6 : Int32).toInt64 &&& 63)) % 16 = ub b / 64 % 16 := by
  have h := Jvm.Kit.i64_shr b ((6 : Int32).toInt64 &&& 63) (k := 6) (by decide)
  have h1 := ub_lt b
  have h2 := ub_lt (b >>> ((6 : Int32).toInt64 &&& 63))
  rcases ub_int b with ⟨e, e2⟩ | ⟨e, e2⟩ <;> rcases ub_int (b >>> ((6 : Int32).toInt64 &&& 63)) with ⟨e3, e4⟩ | ⟨e3, e4⟩ <;> rw [e, e3] at h <;> omega
theorem ub_p6 (b : Int64) : (b >>> ((6 : Int32).toInt64 &&& 63)).toInt32 &&& 15 = nI (ub b / 64 % 16) := by
  rw [pk_and _ 4 (by decide), ub_l2i, show (2 : Nat) ^ 4 = 16 from rfl, ← ub_s6 b]
  congr 1
  omega
theorem ub_s10 (b : Int64) : ub (b >>> ((10 : Int32).toInt64 &&& 63)) % 65536 = ub b / 1024 % 65536 := by
  have h := Jvm.Kit.i64_shr b ((10 : Int32).toInt64 &&& 63) (k := 10) (by decide)
  have h1 := ub_lt b
  have h2 := ub_lt (b >>> ((10 : Int32).toInt64 &&& 63))
  rcases ub_int b with ⟨e, e2⟩ | ⟨e, e2⟩ <;> rcases ub_int (b >>> ((10 : Int32).toInt64 &&& 63)) with ⟨e3, e4⟩ | ⟨e3, e4⟩ <;> rw [e, e3] at h <;> omega
theorem ub_p10 (b : Int64) : (b >>> ((10 : Int32).toInt64 &&& 63)).toInt32 &&& 65535 = nI (ub b / 1024 % 65536) := by
  rw [pk_and _ 16 (by decide), ub_l2i, show (2 : Nat) ^ 16 = 65536 from rfl, ← ub_s10 b]
  congr 1
  omega
theorem ub_s26 (b : Int64) : ub (b >>> ((26 : Int32).toInt64 &&& 63)) % 256 = ub b / 67108864 % 256 := by
  have h := Jvm.Kit.i64_shr b ((26 : Int32).toInt64 &&& 63) (k := 26) (by decide)
  have h1 := ub_lt b
  have h2 := ub_lt (b >>> ((26 : Int32).toInt64 &&& 63))
  rcases ub_int b with ⟨e, e2⟩ | ⟨e, e2⟩ <;> rcases ub_int (b >>> ((26 : Int32).toInt64 &&& 63)) with ⟨e3, e4⟩ | ⟨e3, e4⟩ <;> rw [e, e3] at h <;> omega
theorem ub_p26 (b : Int64) : (b >>> ((26 : Int32).toInt64 &&& 63)).toInt32 &&& 255 = nI (ub b / 67108864 % 256) := by
  rw [pk_and _ 8 (by decide), ub_l2i, show (2 : Nat) ^ 8 = 256 from rfl, ← ub_s26 b]
  congr 1
  omega
theorem ub_s34 (b : Int64) : ub (b >>> ((34 : Int32).toInt64 &&& 63)) % 256 = ub b / 17179869184 % 256 := by
  have h := Jvm.Kit.i64_shr b ((34 : Int32).toInt64 &&& 63) (k := 34) (by decide)
  have h1 := ub_lt b
  have h2 := ub_lt (b >>> ((34 : Int32).toInt64 &&& 63))
  rcases ub_int b with ⟨e, e2⟩ | ⟨e, e2⟩ <;> rcases ub_int (b >>> ((34 : Int32).toInt64 &&& 63)) with ⟨e3, e4⟩ | ⟨e3, e4⟩ <;> rw [e, e3] at h <;> omega
theorem ub_p34 (b : Int64) : (b >>> ((34 : Int32).toInt64 &&& 63)).toInt32 &&& 255 = nI (ub b / 17179869184 % 256) := by
  rw [pk_and _ 8 (by decide), ub_l2i, show (2 : Nat) ^ 8 = 256 from rfl, ← ub_s34 b]
  congr 1
  omega
theorem ub_c (b : Int64) : (b &&& 1023).toInt32 = nI (ub b % 1024) := by
  rw [ub_and b 10 (by decide), nJ_l2i (by omega)]
theorem ub_t (b : Int64) : (b >>> ((10 : Int32).toInt64 &&& 63) &&& 65535).toInt32 = nI (ub b / 1024 % 65536) := by
  rw [ub_and _ 16 (by decide), nJ_l2i (by omega), show (2 : Nat) ^ 16 = 65536 from rfl, ub_s10]
theorem ub_q (b : Int64) : (b >>> ((26 : Int32).toInt64 &&& 63) &&& 255).toInt32 = nI (ub b / 67108864 % 256) := by
  rw [ub_and _ 8 (by decide), nJ_l2i (by omega), show (2 : Nat) ^ 8 = 256 from rfl, ub_s26]
theorem ub_h (b : Int64) : (b.toUInt64 >>> ((34 : Int32).toInt64.toUInt64 &&& Int64.toUInt64 63)).toInt64 = nJ (ub b / 17179869184) := by
  rw [ub_eq (x := (b.toUInt64 >>> ((34 : Int32).toInt64.toUInt64 &&& Int64.toUInt64 63)).toInt64), ub_ushr b _ 34 (by decide)]
theorem ub_42 (b : Int64) : b >>> ((42 : Int32).toInt64 &&& 63) = 0 ↔ ub b / 4398046511104 = 0 := by
  have h := Jvm.Kit.i64_shr b ((42 : Int32).toInt64 &&& 63) (k := 42) (by decide)
  have h1 := ub_lt b
  rw [← Int64.toInt_inj, h]
  have h0 : (0 : Int64).toInt = 0 := rfl
  rw [h0]
  rcases ub_int b with ⟨e, e2⟩ | ⟨e, e2⟩ <;> rw [e] <;> constructor <;> intro z <;> omega
def msum (k d w t s : Nat) : Nat := (k + 3 * d + 5 * w + 7 * t + 11 * s) % 256
def mok (k d w : Nat) : Bool := decide (k ≤ 6 ∧ (k = 3 ∨ w = 0) ∧ (d = 0 ∨ ¬ (k = 0 ∨ k = 4 ∨ k = 5)))
def msumU (U : Nat) : Nat := msum (U % 16) (U / 16 % 4) (U / 64 % 16) (U / 1024 % 65536) (U / 67108864 % 256)
def mokU (U : Nat) : Bool := mok (U % 16) (U / 16 % 4) (U / 64 % 16)
theorem orI {a b : Nat} (i : Nat) (hb : b < 2 ^ i) : nI b ||| nI (a * 2 ^ i) = nI (b + a * 2 ^ i) := by
  rw [Nat.add_comm, Nat.mul_comm, Nat.two_pow_add_eq_or_of_lt hb, Nat.or_comm]
  apply Int32.toBitVec_inj.mp
  rw [Int32.toBitVec_or]
  exact (BitVec.ofNat_or).symm
theorem orJ {a b : Nat} (i : Nat) (hb : b < 2 ^ i) : nJ b ||| nJ (a * 2 ^ i) = nJ (b + a * 2 ^ i) := by
  rw [Nat.add_comm, Nat.mul_comm, Nat.two_pow_add_eq_or_of_lt hb, Nat.or_comm]
  apply Int64.toBitVec_inj.mp
  rw [Int64.toBitVec_or]
  exact (BitVec.ofNat_or).symm
theorem shlJ (n : Nat) (s : Int64) (k : Nat) (hs : (s.toBitVec.smod 64).toNat = k) (h : n * 2 ^ k < 18446744073709551616) : nJ n <<< s = nJ (n * 2 ^ k) := by
  apply Int64.toBitVec_inj.mp
  show (nJ n).toBitVec <<< (s.toBitVec.smod 64).toNat = BitVec.ofNat 64 _
  rw [hs]
  apply BitVec.eq_of_toNat_eq
  rw [BitVec.toNat_shiftLeft, BitVec.toNat_ofNat, Nat.shiftLeft_eq]
  show ub (nJ n) * 2 ^ k % 2 ^ 64 = _
  rw [ub_nJ (Nat.lt_of_le_of_lt (Nat.le_mul_of_pos_right n (Nat.two_pow_pos k)) h)]
set_option maxHeartbeats 4000000 in
set_option maxRecDepth 100000 in
theorem k_codeOf {sh : List xSh} {M : xM} {Q : Option Value → xM → Prop} {b : Int64} (h : Q (some (.int (nI (ub b % 1024)))) M) : WP sh mX0_codeOf 0 [some (.long b), none] [] M Q := by
  refine xi_lload_n dX0_codeOf_0 rfl ?_
  refine xi_ldc2 (v := 1023) dX0_codeOf_1 kcX0_9 ?_
  refine xi_land dX0_codeOf_4 ?_
  refine xi_l2i dX0_codeOf_5 ?_
  refine xtop (y := nI (ub b % 1024)) (ub_c b) ?_
  refine xi_iret (v := nI (ub b % 1024)) dX0_codeOf_6 rfl ?_
  exact h

set_option maxHeartbeats 4000000 in
set_option maxRecDepth 100000 in
theorem k_tickOf {sh : List xSh} {M : xM} {Q : Option Value → xM → Prop} {b : Int64} (h : Q (some (.int (nI (ub b / 1024 % 65536)))) M) : WP sh mX0_tickOf 0 [some (.long b), none] [] M Q := by
  refine xi_lload_n dX0_tickOf_0 rfl ?_
  refine xi_bipush (v := 10) dX0_tickOf_1 (by decide) ?_
  refine xi_lshr dX0_tickOf_3 ?_
  refine xi_ldc2 (v := 65535) dX0_tickOf_4 kcX0_11 ?_
  refine xi_land dX0_tickOf_7 ?_
  refine xi_l2i dX0_tickOf_8 ?_
  refine xtop (y := nI (ub b / 1024 % 65536)) (ub_t b) ?_
  refine xi_iret (v := nI (ub b / 1024 % 65536)) dX0_tickOf_9 rfl ?_
  exact h

set_option maxHeartbeats 4000000 in
set_option maxRecDepth 100000 in
theorem k_seqOf {sh : List xSh} {M : xM} {Q : Option Value → xM → Prop} {b : Int64} (h : Q (some (.int (nI (ub b / 67108864 % 256)))) M) : WP sh mX0_seqOf 0 [some (.long b), none] [] M Q := by
  refine xi_lload_n dX0_seqOf_0 rfl ?_
  refine xi_bipush (v := 26) dX0_seqOf_1 (by decide) ?_
  refine xi_lshr dX0_seqOf_3 ?_
  refine xi_ldc2 (v := 255) dX0_seqOf_4 kcX0_13 ?_
  refine xi_land dX0_seqOf_7 ?_
  refine xi_l2i dX0_seqOf_8 ?_
  refine xtop (y := nI (ub b / 67108864 % 256)) (ub_q b) ?_
  refine xi_iret (v := nI (ub b / 67108864 % 256)) dX0_seqOf_9 rfl ?_
  exact h

set_option maxHeartbeats 4000000 in
set_option maxRecDepth 100000 in
theorem k_sumOf {sh : List xSh} {M : xM} {Q : Option Value → xM → Prop} {k d v t s : Nat} (hk : k < 16) (hd : d < 4) (hv : v < 16) (ht : t < 65536) (hs : s < 256) (h : Q (some (.int (nI (msum k d v t s)))) M) : WP sh mX0_sumOf 0 [some (.int (nI k)), some (.int (nI d)), some (.int (nI v)), some (.int (nI t)), some (.int (nI s))] [] M Q := by
  refine xi_iload_n dX0_sumOf_0 rfl ?_
  refine xi_iconst (v := 3) dX0_sumOf_1 rfl ?_
  refine xi_iload_n dX0_sumOf_2 rfl ?_
  refine xe_imul dX0_sumOf_3 (v := nI (3 * d)) (pk_mul 3 d) ?_
  refine xe_iadd dX0_sumOf_4 (v := nI (k + (3 * d))) (nI_add k (3 * d)) ?_
  refine xi_iconst (v := 5) dX0_sumOf_5 rfl ?_
  refine xi_iload_n dX0_sumOf_6 rfl ?_
  refine xe_imul dX0_sumOf_7 (v := nI (5 * v)) (pk_mul 5 v) ?_
  refine xe_iadd dX0_sumOf_8 (v := nI (k + (3 * d) + (5 * v))) (nI_add (k + (3 * d)) (5 * v)) ?_
  refine xi_bipush (v := 7) dX0_sumOf_9 (by decide) ?_
  refine xi_iload_n dX0_sumOf_11 rfl ?_
  refine xat 12 rfl ?_
  refine xe_imul dX0_sumOf_12 (v := nI (7 * t)) (pk_mul 7 t) ?_
  refine xe_iadd dX0_sumOf_13 (v := nI (k + (3 * d) + (5 * v) + (7 * t))) (nI_add (k + (3 * d) + (5 * v)) (7 * t)) ?_
  refine xi_bipush (v := 11) dX0_sumOf_14 (by decide) ?_
  refine xi_iload dX0_sumOf_16 rfl ?_
  refine xe_imul dX0_sumOf_18 (v := nI (11 * s)) (pk_mul 11 s) ?_
  refine xe_iadd dX0_sumOf_19 (v := nI (k + (3 * d) + (5 * v) + (7 * t) + (11 * s))) (nI_add (k + (3 * d) + (5 * v) + (7 * t)) (11 * s)) ?_
  refine xi_sipush (v := 255) dX0_sumOf_20 (by decide) ?_
  refine xe_iand dX0_sumOf_23 (v := nI (msum k d v t s)) (pk_andN (by omega) 8 (by decide)) ?_
  refine xi_iret (v := nI (msum k d v t s)) dX0_sumOf_24 rfl ?_
  exact h

theorem ub_mod (U : Nat) : U % 1024 % 16 = U % 16 ∧ U % 1024 / 16 % 4 = U / 16 % 4 ∧ U % 1024 / 64 % 16 = U / 64 % 16 := by omega

theorem wh_cmp {a c : Nat} (ha : a < 2 ^ 63) (hc : c < 2 ^ 63) : lg_cmp (nJ a) (nJ c) = 0 ↔ a = c := by
  rw [lg_cmp_eq]
  constructor
  · intro h
    have := congrArg Int64.toInt h
    rw [nJ_toInt ha, nJ_toInt hc] at this
    omega
  · intro h; rw [h]

set_option maxHeartbeats 4000000 in
set_option maxRecDepth 100000 in
theorem k_whole {sh : List xSh} {M : xM} {Q : Option Value → xM → Prop} {b : Int64} (h : Q (some (.int (xb (decide (ub b / 17179869184 = msumU (ub b)))))) M) : WP sh mX0_areWhole 0 [some (.long b), none, none, none] [] M Q := by
  refine xi_lload_n dX0_areWhole_0 rfl ?_
  refine xi_callS [.long b] [] dX0_areWhole_1 zX0_codeOf mlX0_15 rfl rfl rfl (Nat.le_of_ble_eq_true rfl) (Nat.le_of_ble_eq_true rfl) ⟨by decide, by decide⟩ ?_
  refine k_codeOf ?_
  show WP _ _ 4 _ [.int (nI (ub b % 1024))] _ _
  refine xi_istore_n (lv' := [some (.long b), none, some (.int (nI (ub b % 1024))), none]) dX0_areWhole_4 (by decide) rfl ?_
  refine xi_iload_n dX0_areWhole_5 rfl ?_
  refine xi_callS [.int (nI (ub b % 1024))] [] dX0_areWhole_6 zX0_kindOf mlX0_21 rfl rfl rfl (Nat.le_of_ble_eq_true rfl) (Nat.le_of_ble_eq_true rfl) ⟨by decide, by decide⟩ ?_
  refine k_kind (c := ub b % 1024) (by omega) ?_
  show WP _ _ 9 _ [.int (nI ((ub b % 1024) % 16))] _ _
  refine xi_iload_n dX0_areWhole_9 rfl ?_
  refine xi_callS [.int (nI (ub b % 1024))] [.int (nI ((ub b % 1024) % 16))] dX0_areWhole_10 zX0_directionOf mlX0_25 rfl rfl rfl (Nat.le_of_ble_eq_true rfl) (Nat.le_of_ble_eq_true rfl) ⟨by decide, by decide⟩ ?_
  refine k_dir (c := ub b % 1024) (by omega) ?_
  show WP _ _ 13 _ [.int (nI ((ub b % 1024) / 16 % 4)), .int (nI ((ub b % 1024) % 16))] _ _
  refine xi_iload_n dX0_areWhole_13 rfl ?_
  refine xi_callS [.int (nI (ub b % 1024))] [.int (nI ((ub b % 1024) / 16 % 4)), .int (nI ((ub b % 1024) % 16))] dX0_areWhole_14 zX0_wordOf mlX0_28 rfl rfl rfl (Nat.le_of_ble_eq_true rfl) (Nat.le_of_ble_eq_true rfl) ⟨by decide, by decide⟩ ?_
  refine k_word (c := ub b % 1024) (by omega) ?_
  show WP _ _ 17 _ [.int (nI ((ub b % 1024) / 64 % 16)), .int (nI ((ub b % 1024) / 16 % 4)), .int (nI ((ub b % 1024) % 16))] _ _
  refine xi_lload_n dX0_areWhole_17 rfl ?_
  refine xi_callS [.long b] [.int (nI ((ub b % 1024) / 64 % 16)), .int (nI ((ub b % 1024) / 16 % 4)), .int (nI ((ub b % 1024) % 16))] dX0_areWhole_18 zX0_tickOf mlX0_31 rfl rfl rfl (Nat.le_of_ble_eq_true rfl) (Nat.le_of_ble_eq_true rfl) ⟨by decide, by decide⟩ ?_
  refine k_tickOf ?_
  show WP _ _ 21 _ [.int (nI (ub b / 1024 % 65536)), .int (nI ((ub b % 1024) / 64 % 16)), .int (nI ((ub b % 1024) / 16 % 4)), .int (nI ((ub b % 1024) % 16))] _ _
  refine xi_lload_n dX0_areWhole_21 rfl ?_
  refine xi_callS [.long b] [.int (nI (ub b / 1024 % 65536)), .int (nI ((ub b % 1024) / 64 % 16)), .int (nI ((ub b % 1024) / 16 % 4)), .int (nI ((ub b % 1024) % 16))] dX0_areWhole_22 zX0_seqOf mlX0_34 rfl rfl rfl (Nat.le_of_ble_eq_true rfl) (Nat.le_of_ble_eq_true rfl) ⟨by decide, by decide⟩ ?_
  refine k_seqOf ?_
  show WP _ _ 25 _ [.int (nI (ub b / 67108864 % 256)), .int (nI (ub b / 1024 % 65536)), .int (nI ((ub b % 1024) / 64 % 16)), .int (nI ((ub b % 1024) / 16 % 4)), .int (nI ((ub b % 1024) % 16))] _ _
  refine xi_callS [.int (nI ((ub b % 1024) % 16)), .int (nI ((ub b % 1024) / 16 % 4)), .int (nI ((ub b % 1024) / 64 % 16)), .int (nI (ub b / 1024 % 65536)), .int (nI (ub b / 67108864 % 256))] [] dX0_areWhole_25 zX0_sumOf mlX0_37 rfl rfl rfl (Nat.le_of_ble_eq_true rfl) (Nat.le_of_ble_eq_true rfl) ⟨by decide, by decide⟩ ?_
  refine k_sumOf (k := (ub b % 1024) % 16) (d := (ub b % 1024) / 16 % 4) (v := (ub b % 1024) / 64 % 16) (t := ub b / 1024 % 65536) (s := ub b / 67108864 % 256) (by omega) (by omega) (by omega) (by omega) (by omega) ?_
  show WP _ _ 28 _ [.int (nI (msum ((ub b % 1024) % 16) ((ub b % 1024) / 16 % 4) ((ub b % 1024) / 64 % 16) (ub b / 1024 % 65536) (ub b / 67108864 % 256)))] _ _
  refine xi_istore_n (lv' := [some (.long b), none, some (.int (nI (ub b % 1024))), some (.int (nI (msum ((ub b % 1024) % 16) ((ub b % 1024) / 16 % 4) ((ub b % 1024) / 64 % 16) (ub b / 1024 % 65536) (ub b / 67108864 % 256))))]) dX0_areWhole_28 (by decide) rfl ?_
  refine xi_lload_n dX0_areWhole_29 rfl ?_
  refine xi_bipush (v := 34) dX0_areWhole_30 (by decide) ?_
  refine xi_lushr dX0_areWhole_32 ?_
  refine xtopj (y := nJ (ub b / 17179869184)) (ub_h b) ?_
  refine xi_iload_n dX0_areWhole_33 rfl ?_
  refine xi_i2l dX0_areWhole_34 ?_
  refine xtopj (y := nJ (msum ((ub b % 1024) % 16) ((ub b % 1024) / 16 % 4) ((ub b % 1024) / 64 % 16) (ub b / 1024 % 65536) (ub b / 67108864 % 256))) (nJ_i2l (show msum _ _ _ _ _ < 2 ^ 31 from Nat.lt_trans (Nat.mod_lt _ (by decide)) (by decide))) ?_
  refine xi_lcmp dX0_areWhole_35 ?_
  refine xi_if_ne 43 dX0_areWhole_36 (by decide) (fun h36 => ?_) (fun h36 => ?_)
  · skip
    refine xi_iconst (v := 0) dX0_areWhole_43 rfl ?_
    refine xi_zret (v := 0) dX0_areWhole_44 rfl (by decide) ?_
    have e : msum (ub b % 1024 % 16) (ub b % 1024 / 16 % 4) (ub b % 1024 / 64 % 16) (ub b / 1024 % 65536) (ub b / 67108864 % 256) = msumU (ub b) := by unfold msumU; rw [(ub_mod _).1, (ub_mod _).2.1, (ub_mod _).2.2]
    have hb := ub_lt b
    have hm : msumU (ub b) < 256 := Nat.mod_lt _ (by decide)
    rw [e] at h36
    rw [wh_cmp (by omega) (by omega)] at h36
    rw [show decide (ub b / 17179869184 = msumU (ub b)) = false by simp; omega] at h
    exact h
  · skip
    refine xi_iconst (v := 1) dX0_areWhole_39 rfl ?_
    refine xi_goto 44 dX0_areWhole_40 (by decide) ?_
    refine xi_zret (v := 1) dX0_areWhole_44 rfl (by decide) ?_
    have e : msum (ub b % 1024 % 16) (ub b % 1024 / 16 % 4) (ub b % 1024 / 64 % 16) (ub b / 1024 % 65536) (ub b / 67108864 % 256) = msumU (ub b) := by unfold msumU; rw [(ub_mod _).1, (ub_mod _).2.1, (ub_mod _).2.2]
    have hb := ub_lt b
    have hm : msumU (ub b) < 256 := Nat.mod_lt _ (by decide)
    rw [e] at h36
    rw [wh_cmp (by omega) (by omega)] at h36
    rw [show decide (ub b / 17179869184 = msumU (ub b)) = true by simp; omega] at h
    exact h

set_option maxHeartbeats 4000000 in
set_option maxRecDepth 100000 in
theorem k_ok {sh : List xSh} {M : xM} {Q : Option Value → xM → Prop} {b : Int64} (h : Q (some (.int (xb (mokU (ub b))))) M) : WP sh mX0_areOfAKind 0 [some (.long b), none, none, none, none] [] M Q := by
  refine xi_lload_n dX0_areOfAKind_0 rfl ?_
  refine xi_callS [.long b] [] dX0_areOfAKind_1 zX0_codeOf mlX0_15 rfl rfl rfl (Nat.le_of_ble_eq_true rfl) (Nat.le_of_ble_eq_true rfl) ⟨by decide, by decide⟩ ?_
  refine k_codeOf ?_
  show WP _ _ 4 _ [.int (nI (ub b % 1024))] _ _
  refine xi_istore_n (lv' := [some (.long b), none, some (.int (nI (ub b % 1024))), none, none]) dX0_areOfAKind_4 (by decide) rfl ?_
  refine xi_iload_n dX0_areOfAKind_5 rfl ?_
  refine xi_callS [.int (nI (ub b % 1024))] [] dX0_areOfAKind_6 zX0_kindOf mlX0_21 rfl rfl rfl (Nat.le_of_ble_eq_true rfl) (Nat.le_of_ble_eq_true rfl) ⟨by decide, by decide⟩ ?_
  refine k_kind (c := ub b % 1024) (by omega) ?_
  show WP _ _ 9 _ [.int (nI ((ub b % 1024) % 16))] _ _
  refine xi_istore_n (lv' := [some (.long b), none, some (.int (nI (ub b % 1024))), some (.int (nI ((ub b % 1024) % 16))), none]) dX0_areOfAKind_9 (by decide) rfl ?_
  refine xi_iload_n dX0_areOfAKind_10 rfl ?_
  refine xn_if_eq ((ub b % 1024) % 16) 24 dX0_areOfAKind_11 (by decide) rfl (by omega) (fun h11 => ?_) (fun h11 => ?_)
  · skip
    refine xi_iconst (v := 1) dX0_areOfAKind_24 rfl ?_
    refine xi_goto 29 dX0_areOfAKind_25 (by decide) ?_
    refine xi_istore (lv' := [some (.long b), none, some (.int (nI (ub b % 1024))), some (.int (nI ((ub b % 1024) % 16))), some (.int 1)]) dX0_areOfAKind_29 (by decide) rfl ?_
    refine xi_iload_n dX0_areOfAKind_31 rfl ?_
    refine xi_bipush (v := 6) dX0_areOfAKind_32 (by decide) ?_
    refine xn_icmp_gt ((ub b % 1024) % 16) 6 65 dX0_areOfAKind_34 (by decide) rfl rfl (by omega) (by omega) (fun h34 => ?_) (fun h34 => ?_)
    · skip
      refine xi_iconst (v := 0) dX0_areOfAKind_65 rfl ?_
      refine xi_zret (v := 0) dX0_areOfAKind_66 rfl (by decide) ?_
      have e := ub_mod (ub b)
      rw [show mokU (ub b) = false by unfold mokU mok; simp; omega] at h
      exact h
    · skip
      refine xi_iload_n dX0_areOfAKind_37 rfl ?_
      refine xi_iconst (v := 3) dX0_areOfAKind_38 rfl ?_
      refine xn_icmp_eq ((ub b % 1024) % 16) 3 49 dX0_areOfAKind_39 (by decide) rfl rfl (by omega) (by omega) (fun h39 => ?_) (fun h39 => ?_)
      · skip
        refine xi_iload dX0_areOfAKind_49 rfl ?_
        refine xn_if_eq 1 61 dX0_areOfAKind_51 (by decide) rfl (by omega) (fun h51 => ?_) (fun h51 => ?_)
        · omega
        · skip
          refine xi_iload_n dX0_areOfAKind_54 rfl ?_
          refine xi_callS [.int (nI (ub b % 1024))] [] dX0_areOfAKind_55 zX0_directionOf mlX0_25 rfl rfl rfl (Nat.le_of_ble_eq_true rfl) (Nat.le_of_ble_eq_true rfl) ⟨by decide, by decide⟩ ?_
          refine k_dir (c := ub b % 1024) (by omega) ?_
          show WP _ _ 58 _ [.int (nI ((ub b % 1024) / 16 % 4))] _ _
          refine xn_if_ne ((ub b % 1024) / 16 % 4) 65 dX0_areOfAKind_58 (by decide) rfl (by omega) (fun h58 => ?_) (fun h58 => ?_)
          · skip
            refine xi_iconst (v := 0) dX0_areOfAKind_65 rfl ?_
            refine xi_zret (v := 0) dX0_areOfAKind_66 rfl (by decide) ?_
            have e := ub_mod (ub b)
            rw [show mokU (ub b) = false by unfold mokU mok; simp; omega] at h
            exact h
          · skip
            refine xi_iconst (v := 1) dX0_areOfAKind_61 rfl ?_
            refine xi_goto 66 dX0_areOfAKind_62 (by decide) ?_
            refine xi_zret (v := 1) dX0_areOfAKind_66 rfl (by decide) ?_
            have e := ub_mod (ub b)
            rw [show mokU (ub b) = true by unfold mokU mok; simp; omega] at h
            exact h
      · skip
        refine xi_iload_n dX0_areOfAKind_42 rfl ?_
        refine xi_callS [.int (nI (ub b % 1024))] [] dX0_areOfAKind_43 zX0_wordOf mlX0_28 rfl rfl rfl (Nat.le_of_ble_eq_true rfl) (Nat.le_of_ble_eq_true rfl) ⟨by decide, by decide⟩ ?_
        refine k_word (c := ub b % 1024) (by omega) ?_
        show WP _ _ 46 _ [.int (nI ((ub b % 1024) / 64 % 16))] _ _
        refine xn_if_ne ((ub b % 1024) / 64 % 16) 65 dX0_areOfAKind_46 (by decide) rfl (by omega) (fun h46 => ?_) (fun h46 => ?_)
        · skip
          refine xi_iconst (v := 0) dX0_areOfAKind_65 rfl ?_
          refine xi_zret (v := 0) dX0_areOfAKind_66 rfl (by decide) ?_
          have e := ub_mod (ub b)
          rw [show mokU (ub b) = false by unfold mokU mok; simp; omega] at h
          exact h
        · skip
          refine xi_iload dX0_areOfAKind_49 rfl ?_
          refine xn_if_eq 1 61 dX0_areOfAKind_51 (by decide) rfl (by omega) (fun h51 => ?_) (fun h51 => ?_)
          · omega
          · skip
            refine xi_iload_n dX0_areOfAKind_54 rfl ?_
            refine xi_callS [.int (nI (ub b % 1024))] [] dX0_areOfAKind_55 zX0_directionOf mlX0_25 rfl rfl rfl (Nat.le_of_ble_eq_true rfl) (Nat.le_of_ble_eq_true rfl) ⟨by decide, by decide⟩ ?_
            refine k_dir (c := ub b % 1024) (by omega) ?_
            show WP _ _ 58 _ [.int (nI ((ub b % 1024) / 16 % 4))] _ _
            refine xn_if_ne ((ub b % 1024) / 16 % 4) 65 dX0_areOfAKind_58 (by decide) rfl (by omega) (fun h58 => ?_) (fun h58 => ?_)
            · skip
              refine xi_iconst (v := 0) dX0_areOfAKind_65 rfl ?_
              refine xi_zret (v := 0) dX0_areOfAKind_66 rfl (by decide) ?_
              have e := ub_mod (ub b)
              rw [show mokU (ub b) = false by unfold mokU mok; simp; omega] at h
              exact h
            · skip
              refine xi_iconst (v := 1) dX0_areOfAKind_61 rfl ?_
              refine xi_goto 66 dX0_areOfAKind_62 (by decide) ?_
              refine xi_zret (v := 1) dX0_areOfAKind_66 rfl (by decide) ?_
              have e := ub_mod (ub b)
              rw [show mokU (ub b) = true by unfold mokU mok; simp; omega] at h
              exact h
  · skip
    refine xi_iload_n dX0_areOfAKind_14 rfl ?_
    refine xi_iconst (v := 4) dX0_areOfAKind_15 rfl ?_
    refine xn_icmp_eq ((ub b % 1024) % 16) 4 24 dX0_areOfAKind_16 (by decide) rfl rfl (by omega) (by omega) (fun h16 => ?_) (fun h16 => ?_)
    · skip
      refine xi_iconst (v := 1) dX0_areOfAKind_24 rfl ?_
      refine xi_goto 29 dX0_areOfAKind_25 (by decide) ?_
      refine xi_istore (lv' := [some (.long b), none, some (.int (nI (ub b % 1024))), some (.int (nI ((ub b % 1024) % 16))), some (.int 1)]) dX0_areOfAKind_29 (by decide) rfl ?_
      refine xi_iload_n dX0_areOfAKind_31 rfl ?_
      refine xi_bipush (v := 6) dX0_areOfAKind_32 (by decide) ?_
      refine xn_icmp_gt ((ub b % 1024) % 16) 6 65 dX0_areOfAKind_34 (by decide) rfl rfl (by omega) (by omega) (fun h34 => ?_) (fun h34 => ?_)
      · skip
        refine xi_iconst (v := 0) dX0_areOfAKind_65 rfl ?_
        refine xi_zret (v := 0) dX0_areOfAKind_66 rfl (by decide) ?_
        have e := ub_mod (ub b)
        rw [show mokU (ub b) = false by unfold mokU mok; simp; omega] at h
        exact h
      · skip
        refine xi_iload_n dX0_areOfAKind_37 rfl ?_
        refine xi_iconst (v := 3) dX0_areOfAKind_38 rfl ?_
        refine xn_icmp_eq ((ub b % 1024) % 16) 3 49 dX0_areOfAKind_39 (by decide) rfl rfl (by omega) (by omega) (fun h39 => ?_) (fun h39 => ?_)
        · skip
          refine xi_iload dX0_areOfAKind_49 rfl ?_
          refine xn_if_eq 1 61 dX0_areOfAKind_51 (by decide) rfl (by omega) (fun h51 => ?_) (fun h51 => ?_)
          · omega
          · skip
            refine xi_iload_n dX0_areOfAKind_54 rfl ?_
            refine xi_callS [.int (nI (ub b % 1024))] [] dX0_areOfAKind_55 zX0_directionOf mlX0_25 rfl rfl rfl (Nat.le_of_ble_eq_true rfl) (Nat.le_of_ble_eq_true rfl) ⟨by decide, by decide⟩ ?_
            refine k_dir (c := ub b % 1024) (by omega) ?_
            show WP _ _ 58 _ [.int (nI ((ub b % 1024) / 16 % 4))] _ _
            refine xn_if_ne ((ub b % 1024) / 16 % 4) 65 dX0_areOfAKind_58 (by decide) rfl (by omega) (fun h58 => ?_) (fun h58 => ?_)
            · skip
              refine xi_iconst (v := 0) dX0_areOfAKind_65 rfl ?_
              refine xi_zret (v := 0) dX0_areOfAKind_66 rfl (by decide) ?_
              have e := ub_mod (ub b)
              rw [show mokU (ub b) = false by unfold mokU mok; simp; omega] at h
              exact h
            · skip
              refine xi_iconst (v := 1) dX0_areOfAKind_61 rfl ?_
              refine xi_goto 66 dX0_areOfAKind_62 (by decide) ?_
              refine xi_zret (v := 1) dX0_areOfAKind_66 rfl (by decide) ?_
              have e := ub_mod (ub b)
              rw [show mokU (ub b) = true by unfold mokU mok; simp; omega] at h
              exact h
        · skip
          refine xi_iload_n dX0_areOfAKind_42 rfl ?_
          refine xi_callS [.int (nI (ub b % 1024))] [] dX0_areOfAKind_43 zX0_wordOf mlX0_28 rfl rfl rfl (Nat.le_of_ble_eq_true rfl) (Nat.le_of_ble_eq_true rfl) ⟨by decide, by decide⟩ ?_
          refine k_word (c := ub b % 1024) (by omega) ?_
          show WP _ _ 46 _ [.int (nI ((ub b % 1024) / 64 % 16))] _ _
          refine xn_if_ne ((ub b % 1024) / 64 % 16) 65 dX0_areOfAKind_46 (by decide) rfl (by omega) (fun h46 => ?_) (fun h46 => ?_)
          · skip
            refine xi_iconst (v := 0) dX0_areOfAKind_65 rfl ?_
            refine xi_zret (v := 0) dX0_areOfAKind_66 rfl (by decide) ?_
            have e := ub_mod (ub b)
            rw [show mokU (ub b) = false by unfold mokU mok; simp; omega] at h
            exact h
          · skip
            refine xi_iload dX0_areOfAKind_49 rfl ?_
            refine xn_if_eq 1 61 dX0_areOfAKind_51 (by decide) rfl (by omega) (fun h51 => ?_) (fun h51 => ?_)
            · omega
            · skip
              refine xi_iload_n dX0_areOfAKind_54 rfl ?_
              refine xi_callS [.int (nI (ub b % 1024))] [] dX0_areOfAKind_55 zX0_directionOf mlX0_25 rfl rfl rfl (Nat.le_of_ble_eq_true rfl) (Nat.le_of_ble_eq_true rfl) ⟨by decide, by decide⟩ ?_
              refine k_dir (c := ub b % 1024) (by omega) ?_
              show WP _ _ 58 _ [.int (nI ((ub b % 1024) / 16 % 4))] _ _
              refine xn_if_ne ((ub b % 1024) / 16 % 4) 65 dX0_areOfAKind_58 (by decide) rfl (by omega) (fun h58 => ?_) (fun h58 => ?_)
              · skip
                refine xi_iconst (v := 0) dX0_areOfAKind_65 rfl ?_
                refine xi_zret (v := 0) dX0_areOfAKind_66 rfl (by decide) ?_
                have e := ub_mod (ub b)
                rw [show mokU (ub b) = false by unfold mokU mok; simp; omega] at h
                exact h
              · skip
                refine xi_iconst (v := 1) dX0_areOfAKind_61 rfl ?_
                refine xi_goto 66 dX0_areOfAKind_62 (by decide) ?_
                refine xi_zret (v := 1) dX0_areOfAKind_66 rfl (by decide) ?_
                have e := ub_mod (ub b)
                rw [show mokU (ub b) = true by unfold mokU mok; simp; omega] at h
                exact h
    · skip
      refine xi_iload_n dX0_areOfAKind_19 rfl ?_
      refine xi_iconst (v := 5) dX0_areOfAKind_20 rfl ?_
      refine xn_icmp_ne ((ub b % 1024) % 16) 5 28 dX0_areOfAKind_21 (by decide) rfl rfl (by omega) (by omega) (fun h21 => ?_) (fun h21 => ?_)
      · skip
        refine xi_iconst (v := 0) dX0_areOfAKind_28 rfl ?_
        refine xi_istore (lv' := [some (.long b), none, some (.int (nI (ub b % 1024))), some (.int (nI ((ub b % 1024) % 16))), some (.int 0)]) dX0_areOfAKind_29 (by decide) rfl ?_
        refine xi_iload_n dX0_areOfAKind_31 rfl ?_
        refine xi_bipush (v := 6) dX0_areOfAKind_32 (by decide) ?_
        refine xn_icmp_gt ((ub b % 1024) % 16) 6 65 dX0_areOfAKind_34 (by decide) rfl rfl (by omega) (by omega) (fun h34 => ?_) (fun h34 => ?_)
        · skip
          refine xi_iconst (v := 0) dX0_areOfAKind_65 rfl ?_
          refine xi_zret (v := 0) dX0_areOfAKind_66 rfl (by decide) ?_
          have e := ub_mod (ub b)
          rw [show mokU (ub b) = false by unfold mokU mok; simp; omega] at h
          exact h
        · skip
          refine xi_iload_n dX0_areOfAKind_37 rfl ?_
          refine xi_iconst (v := 3) dX0_areOfAKind_38 rfl ?_
          refine xn_icmp_eq ((ub b % 1024) % 16) 3 49 dX0_areOfAKind_39 (by decide) rfl rfl (by omega) (by omega) (fun h39 => ?_) (fun h39 => ?_)
          · skip
            refine xi_iload dX0_areOfAKind_49 rfl ?_
            refine xn_if_eq 0 61 dX0_areOfAKind_51 (by decide) rfl (by omega) (fun h51 => ?_) (fun h51 => ?_)
            · skip
              refine xi_iconst (v := 1) dX0_areOfAKind_61 rfl ?_
              refine xi_goto 66 dX0_areOfAKind_62 (by decide) ?_
              refine xi_zret (v := 1) dX0_areOfAKind_66 rfl (by decide) ?_
              have e := ub_mod (ub b)
              rw [show mokU (ub b) = true by unfold mokU mok; simp; omega] at h
              exact h
            · omega
          · skip
            refine xi_iload_n dX0_areOfAKind_42 rfl ?_
            refine xi_callS [.int (nI (ub b % 1024))] [] dX0_areOfAKind_43 zX0_wordOf mlX0_28 rfl rfl rfl (Nat.le_of_ble_eq_true rfl) (Nat.le_of_ble_eq_true rfl) ⟨by decide, by decide⟩ ?_
            refine k_word (c := ub b % 1024) (by omega) ?_
            show WP _ _ 46 _ [.int (nI ((ub b % 1024) / 64 % 16))] _ _
            refine xn_if_ne ((ub b % 1024) / 64 % 16) 65 dX0_areOfAKind_46 (by decide) rfl (by omega) (fun h46 => ?_) (fun h46 => ?_)
            · skip
              refine xi_iconst (v := 0) dX0_areOfAKind_65 rfl ?_
              refine xi_zret (v := 0) dX0_areOfAKind_66 rfl (by decide) ?_
              have e := ub_mod (ub b)
              rw [show mokU (ub b) = false by unfold mokU mok; simp; omega] at h
              exact h
            · skip
              refine xi_iload dX0_areOfAKind_49 rfl ?_
              refine xn_if_eq 0 61 dX0_areOfAKind_51 (by decide) rfl (by omega) (fun h51 => ?_) (fun h51 => ?_)
              · skip
                refine xi_iconst (v := 1) dX0_areOfAKind_61 rfl ?_
                refine xi_goto 66 dX0_areOfAKind_62 (by decide) ?_
                refine xi_zret (v := 1) dX0_areOfAKind_66 rfl (by decide) ?_
                have e := ub_mod (ub b)
                rw [show mokU (ub b) = true by unfold mokU mok; simp; omega] at h
                exact h
              · omega
      · skip
        refine xi_iconst (v := 1) dX0_areOfAKind_24 rfl ?_
        refine xi_goto 29 dX0_areOfAKind_25 (by decide) ?_
        refine xi_istore (lv' := [some (.long b), none, some (.int (nI (ub b % 1024))), some (.int (nI ((ub b % 1024) % 16))), some (.int 1)]) dX0_areOfAKind_29 (by decide) rfl ?_
        refine xi_iload_n dX0_areOfAKind_31 rfl ?_
        refine xi_bipush (v := 6) dX0_areOfAKind_32 (by decide) ?_
        refine xn_icmp_gt ((ub b % 1024) % 16) 6 65 dX0_areOfAKind_34 (by decide) rfl rfl (by omega) (by omega) (fun h34 => ?_) (fun h34 => ?_)
        · skip
          refine xi_iconst (v := 0) dX0_areOfAKind_65 rfl ?_
          refine xi_zret (v := 0) dX0_areOfAKind_66 rfl (by decide) ?_
          have e := ub_mod (ub b)
          rw [show mokU (ub b) = false by unfold mokU mok; simp; omega] at h
          exact h
        · skip
          refine xi_iload_n dX0_areOfAKind_37 rfl ?_
          refine xi_iconst (v := 3) dX0_areOfAKind_38 rfl ?_
          refine xn_icmp_eq ((ub b % 1024) % 16) 3 49 dX0_areOfAKind_39 (by decide) rfl rfl (by omega) (by omega) (fun h39 => ?_) (fun h39 => ?_)
          · skip
            refine xi_iload dX0_areOfAKind_49 rfl ?_
            refine xn_if_eq 1 61 dX0_areOfAKind_51 (by decide) rfl (by omega) (fun h51 => ?_) (fun h51 => ?_)
            · omega
            · skip
              refine xi_iload_n dX0_areOfAKind_54 rfl ?_
              refine xi_callS [.int (nI (ub b % 1024))] [] dX0_areOfAKind_55 zX0_directionOf mlX0_25 rfl rfl rfl (Nat.le_of_ble_eq_true rfl) (Nat.le_of_ble_eq_true rfl) ⟨by decide, by decide⟩ ?_
              refine k_dir (c := ub b % 1024) (by omega) ?_
              show WP _ _ 58 _ [.int (nI ((ub b % 1024) / 16 % 4))] _ _
              refine xn_if_ne ((ub b % 1024) / 16 % 4) 65 dX0_areOfAKind_58 (by decide) rfl (by omega) (fun h58 => ?_) (fun h58 => ?_)
              · skip
                refine xi_iconst (v := 0) dX0_areOfAKind_65 rfl ?_
                refine xi_zret (v := 0) dX0_areOfAKind_66 rfl (by decide) ?_
                have e := ub_mod (ub b)
                rw [show mokU (ub b) = false by unfold mokU mok; simp; omega] at h
                exact h
              · skip
                refine xi_iconst (v := 1) dX0_areOfAKind_61 rfl ?_
                refine xi_goto 66 dX0_areOfAKind_62 (by decide) ?_
                refine xi_zret (v := 1) dX0_areOfAKind_66 rfl (by decide) ?_
                have e := ub_mod (ub b)
                rw [show mokU (ub b) = true by unfold mokU mok; simp; omega] at h
                exact h
          · skip
            refine xi_iload_n dX0_areOfAKind_42 rfl ?_
            refine xi_callS [.int (nI (ub b % 1024))] [] dX0_areOfAKind_43 zX0_wordOf mlX0_28 rfl rfl rfl (Nat.le_of_ble_eq_true rfl) (Nat.le_of_ble_eq_true rfl) ⟨by decide, by decide⟩ ?_
            refine k_word (c := ub b % 1024) (by omega) ?_
            show WP _ _ 46 _ [.int (nI ((ub b % 1024) / 64 % 16))] _ _
            refine xn_if_ne ((ub b % 1024) / 64 % 16) 65 dX0_areOfAKind_46 (by decide) rfl (by omega) (fun h46 => ?_) (fun h46 => ?_)
            · skip
              refine xi_iconst (v := 0) dX0_areOfAKind_65 rfl ?_
              refine xi_zret (v := 0) dX0_areOfAKind_66 rfl (by decide) ?_
              have e := ub_mod (ub b)
              rw [show mokU (ub b) = false by unfold mokU mok; simp; omega] at h
              exact h
            · skip
              refine xi_iload dX0_areOfAKind_49 rfl ?_
              refine xn_if_eq 1 61 dX0_areOfAKind_51 (by decide) rfl (by omega) (fun h51 => ?_) (fun h51 => ?_)
              · omega
              · skip
                refine xi_iload_n dX0_areOfAKind_54 rfl ?_
                refine xi_callS [.int (nI (ub b % 1024))] [] dX0_areOfAKind_55 zX0_directionOf mlX0_25 rfl rfl rfl (Nat.le_of_ble_eq_true rfl) (Nat.le_of_ble_eq_true rfl) ⟨by decide, by decide⟩ ?_
                refine k_dir (c := ub b % 1024) (by omega) ?_
                show WP _ _ 58 _ [.int (nI ((ub b % 1024) / 16 % 4))] _ _
                refine xn_if_ne ((ub b % 1024) / 16 % 4) 65 dX0_areOfAKind_58 (by decide) rfl (by omega) (fun h58 => ?_) (fun h58 => ?_)
                · skip
                  refine xi_iconst (v := 0) dX0_areOfAKind_65 rfl ?_
                  refine xi_zret (v := 0) dX0_areOfAKind_66 rfl (by decide) ?_
                  have e := ub_mod (ub b)
                  rw [show mokU (ub b) = false by unfold mokU mok; simp; omega] at h
                  exact h
                · skip
                  refine xi_iconst (v := 1) dX0_areOfAKind_61 rfl ?_
                  refine xi_goto 66 dX0_areOfAKind_62 (by decide) ?_
                  refine xi_zret (v := 1) dX0_areOfAKind_66 rfl (by decide) ?_
                  have e := ub_mod (ub b)
                  rw [show mokU (ub b) = true by unfold mokU mok; simp; omega] at h
                  exact h

set_option maxHeartbeats 4000000 in
set_option maxRecDepth 100000 in
theorem o_p0 {sh : List xSh} {M : xM} {Q : Option Value → xM → Prop} {b : Int64} (h : Q (some (.int (nI (ub b / 1 % 16)))) M) : WP sh mX10_part 0 [some (.long b), none, some (.int 0), some (.int 4)] [] M Q := by
  refine xi_lload_n dX10_part_0 rfl ?_
  refine xi_iload_n dX10_part_1 rfl ?_
  refine xi_lshr dX10_part_2 ?_
  refine xi_l2i dX10_part_3 ?_
  refine xi_iconst (v := 1) dX10_part_4 rfl ?_
  refine xi_iload_n dX10_part_5 rfl ?_
  refine xe_ishl dX10_part_6 (v := 16) (by decide) ?_
  refine xi_iconst (v := 1) dX10_part_7 rfl ?_
  refine xe_isub dX10_part_8 (v := 15) (by decide) ?_
  refine xe_iand dX10_part_9 (v := nI (ub b / 1 % 16)) (ub_p0 b) ?_
  refine xi_iret (v := nI (ub b / 1 % 16)) dX10_part_10 rfl ?_
  exact h

set_option maxHeartbeats 4000000 in
set_option maxRecDepth 100000 in
theorem o_p4 {sh : List xSh} {M : xM} {Q : Option Value → xM → Prop} {b : Int64} (h : Q (some (.int (nI (ub b / 16 % 4)))) M) : WP sh mX10_part 0 [some (.long b), none, some (.int 4), some (.int 2)] [] M Q := by
  refine xi_lload_n dX10_part_0 rfl ?_
  refine xi_iload_n dX10_part_1 rfl ?_
  refine xi_lshr dX10_part_2 ?_
  refine xi_l2i dX10_part_3 ?_
  refine xi_iconst (v := 1) dX10_part_4 rfl ?_
  refine xi_iload_n dX10_part_5 rfl ?_
  refine xe_ishl dX10_part_6 (v := 4) (by decide) ?_
  refine xi_iconst (v := 1) dX10_part_7 rfl ?_
  refine xe_isub dX10_part_8 (v := 3) (by decide) ?_
  refine xe_iand dX10_part_9 (v := nI (ub b / 16 % 4)) (ub_p4 b) ?_
  refine xi_iret (v := nI (ub b / 16 % 4)) dX10_part_10 rfl ?_
  exact h

set_option maxHeartbeats 4000000 in
set_option maxRecDepth 100000 in
theorem o_p6 {sh : List xSh} {M : xM} {Q : Option Value → xM → Prop} {b : Int64} (h : Q (some (.int (nI (ub b / 64 % 16)))) M) : WP sh mX10_part 0 [some (.long b), none, some (.int 6), some (.int 4)] [] M Q := by
  refine xi_lload_n dX10_part_0 rfl ?_
  refine xi_iload_n dX10_part_1 rfl ?_
  refine xi_lshr dX10_part_2 ?_
  refine xi_l2i dX10_part_3 ?_
  refine xi_iconst (v := 1) dX10_part_4 rfl ?_
  refine xi_iload_n dX10_part_5 rfl ?_
  refine xe_ishl dX10_part_6 (v := 16) (by decide) ?_
  refine xi_iconst (v := 1) dX10_part_7 rfl ?_
  refine xe_isub dX10_part_8 (v := 15) (by decide) ?_
  refine xe_iand dX10_part_9 (v := nI (ub b / 64 % 16)) (ub_p6 b) ?_
  refine xi_iret (v := nI (ub b / 64 % 16)) dX10_part_10 rfl ?_
  exact h

set_option maxHeartbeats 4000000 in
set_option maxRecDepth 100000 in
theorem o_p10 {sh : List xSh} {M : xM} {Q : Option Value → xM → Prop} {b : Int64} (h : Q (some (.int (nI (ub b / 1024 % 65536)))) M) : WP sh mX10_part 0 [some (.long b), none, some (.int 10), some (.int 16)] [] M Q := by
  refine xi_lload_n dX10_part_0 rfl ?_
  refine xi_iload_n dX10_part_1 rfl ?_
  refine xi_lshr dX10_part_2 ?_
  refine xi_l2i dX10_part_3 ?_
  refine xi_iconst (v := 1) dX10_part_4 rfl ?_
  refine xi_iload_n dX10_part_5 rfl ?_
  refine xe_ishl dX10_part_6 (v := 65536) (by decide) ?_
  refine xi_iconst (v := 1) dX10_part_7 rfl ?_
  refine xe_isub dX10_part_8 (v := 65535) (by decide) ?_
  refine xe_iand dX10_part_9 (v := nI (ub b / 1024 % 65536)) (ub_p10 b) ?_
  refine xi_iret (v := nI (ub b / 1024 % 65536)) dX10_part_10 rfl ?_
  exact h

set_option maxHeartbeats 4000000 in
set_option maxRecDepth 100000 in
theorem o_p26 {sh : List xSh} {M : xM} {Q : Option Value → xM → Prop} {b : Int64} (h : Q (some (.int (nI (ub b / 67108864 % 256)))) M) : WP sh mX10_part 0 [some (.long b), none, some (.int 26), some (.int 8)] [] M Q := by
  refine xi_lload_n dX10_part_0 rfl ?_
  refine xi_iload_n dX10_part_1 rfl ?_
  refine xi_lshr dX10_part_2 ?_
  refine xi_l2i dX10_part_3 ?_
  refine xi_iconst (v := 1) dX10_part_4 rfl ?_
  refine xi_iload_n dX10_part_5 rfl ?_
  refine xe_ishl dX10_part_6 (v := 256) (by decide) ?_
  refine xi_iconst (v := 1) dX10_part_7 rfl ?_
  refine xe_isub dX10_part_8 (v := 255) (by decide) ?_
  refine xe_iand dX10_part_9 (v := nI (ub b / 67108864 % 256)) (ub_p26 b) ?_
  refine xi_iret (v := nI (ub b / 67108864 % 256)) dX10_part_10 rfl ?_
  exact h

set_option maxHeartbeats 4000000 in
set_option maxRecDepth 100000 in
theorem o_p34 {sh : List xSh} {M : xM} {Q : Option Value → xM → Prop} {b : Int64} (h : Q (some (.int (nI (ub b / 17179869184 % 256)))) M) : WP sh mX10_part 0 [some (.long b), none, some (.int 34), some (.int 8)] [] M Q := by
  refine xi_lload_n dX10_part_0 rfl ?_
  refine xi_iload_n dX10_part_1 rfl ?_
  refine xi_lshr dX10_part_2 ?_
  refine xi_l2i dX10_part_3 ?_
  refine xi_iconst (v := 1) dX10_part_4 rfl ?_
  refine xi_iload_n dX10_part_5 rfl ?_
  refine xe_ishl dX10_part_6 (v := 256) (by decide) ?_
  refine xi_iconst (v := 1) dX10_part_7 rfl ?_
  refine xe_isub dX10_part_8 (v := 255) (by decide) ?_
  refine xe_iand dX10_part_9 (v := nI (ub b / 17179869184 % 256)) (ub_p34 b) ?_
  refine xi_iret (v := nI (ub b / 17179869184 % 256)) dX10_part_10 rfl ?_
  exact h

def a_pack (a b c d e : Int32) : Int64 := nJ (a.toBitVec.toNat % 16 + b.toBitVec.toNat % 4 * 16 + c.toBitVec.toNat % 16 * 64 + d.toBitVec.toNat % 65536 * 1024 + e.toBitVec.toNat % 256 * 67108864 + msum (a.toBitVec.toNat % 16) (b.toBitVec.toNat % 4) (c.toBitVec.toNat % 16) (d.toBitVec.toNat % 65536) (e.toBitVec.toNat % 256) * 17179869184)

set_option maxHeartbeats 4000000 in
set_option maxRecDepth 100000 in
theorem k_join {sh : List xSh} {M : xM} {Q : Option Value → xM → Prop} {l s q : Nat} (hl : l < 67108864) (hs : s < 256) (hq : q < 256) (h : Q (some (.long (nJ (l + s * 67108864 + q * 17179869184)))) M) : WP sh mX0_join 0 [some (.int (nI l)), some (.int (nI s)), some (.int (nI q))] [] M Q := by
  refine xi_iload_n dX0_join_0 rfl ?_
  refine xi_i2l dX0_join_1 ?_
  refine xtopj (y := nJ l) (nJ_i2l (by omega)) ?_
  refine xi_iload_n dX0_join_2 rfl ?_
  refine xi_i2l dX0_join_3 ?_
  refine xtopj (y := nJ s) (nJ_i2l (by omega)) ?_
  refine xi_bipush (v := 26) dX0_join_4 (by decide) ?_
  refine xi_lshl dX0_join_6 ?_
  refine xtopj (y := nJ (s * 67108864)) (shlJ s _ 26 (by decide) (by omega)) ?_
  refine xi_lor dX0_join_7 ?_
  refine xtopj (y := nJ (l + s * 67108864)) (orJ 26 (by omega)) ?_
  refine xi_iload_n dX0_join_8 rfl ?_
  refine xi_i2l dX0_join_9 ?_
  refine xtopj (y := nJ q) (nJ_i2l (by omega)) ?_
  refine xi_bipush (v := 34) dX0_join_10 (by decide) ?_
  refine xi_lshl dX0_join_12 ?_
  refine xtopj (y := nJ (q * 17179869184)) (shlJ q _ 34 (by decide) (by omega)) ?_
  refine xat 13 rfl ?_
  refine xi_lor dX0_join_13 ?_
  refine xtopj (y := nJ (l + s * 67108864 + q * 17179869184)) (orJ 34 (by omega)) ?_
  refine xi_lret (v := nJ (l + s * 67108864 + q * 17179869184)) dX0_join_14 rfl ?_
  exact h

set_option maxHeartbeats 4000000 in
set_option maxRecDepth 100000 in
theorem cl_pack {M : xM} {Q : Option Value → xM → Prop} (x0 x1 x2 x3 x4 : Int32) (h : Q (some (.long (a_pack x0 x1 x2 x3 x4))) M) : WP shC mX9_pack 0 [some (.ref 0), some (.int x0), some (.int x1), some (.int x2), some (.int x3), some (.int x4), none, none, none, none, none] [] M Q := by
  obtain ⟨y0, ey0⟩ : ∃ y, y = x0.toBitVec.toNat % 16 := ⟨_, rfl⟩
  have by0 : y0 < 16 := by rw [ey0]; exact Nat.mod_lt _ (by decide)
  obtain ⟨y1, ey1⟩ : ∃ y, y = x1.toBitVec.toNat % 4 := ⟨_, rfl⟩
  have by1 : y1 < 4 := by rw [ey1]; exact Nat.mod_lt _ (by decide)
  obtain ⟨y2, ey2⟩ : ∃ y, y = x2.toBitVec.toNat % 16 := ⟨_, rfl⟩
  have by2 : y2 < 16 := by rw [ey2]; exact Nat.mod_lt _ (by decide)
  obtain ⟨y3, ey3⟩ : ∃ y, y = x3.toBitVec.toNat % 65536 := ⟨_, rfl⟩
  have by3 : y3 < 65536 := by rw [ey3]; exact Nat.mod_lt _ (by decide)
  obtain ⟨y4, ey4⟩ : ∃ y, y = x4.toBitVec.toNat % 256 := ⟨_, rfl⟩
  have by4 : y4 < 256 := by rw [ey4]; exact Nat.mod_lt _ (by decide)
  refine xi_iload_n dX9_pack_0 rfl ?_
  refine xi_bipush (v := 15) dX9_pack_1 (by decide) ?_
  refine xe_iand dX9_pack_3 (v := nI y0) (by rw [ey0]; exact pk_and x0 4 (by decide)) ?_
  refine xi_istore (lv' := [some (.ref 0), some (.int x0), some (.int x1), some (.int x2), some (.int x3), some (.int x4), some (.int (nI y0)), none, none, none, none]) dX9_pack_4 (by decide) rfl ?_
  refine xi_iload_n dX9_pack_6 rfl ?_
  refine xi_iconst (v := 3) dX9_pack_7 rfl ?_
  refine xe_iand dX9_pack_8 (v := nI y1) (by rw [ey1]; exact pk_and x1 2 (by decide)) ?_
  refine xi_istore (lv' := [some (.ref 0), some (.int x0), some (.int x1), some (.int x2), some (.int x3), some (.int x4), some (.int (nI y0)), some (.int (nI y1)), none, none, none]) dX9_pack_9 (by decide) rfl ?_
  refine xi_iload_n dX9_pack_11 rfl ?_
  refine xi_bipush (v := 15) dX9_pack_12 (by decide) ?_
  refine xe_iand dX9_pack_14 (v := nI y2) (by rw [ey2]; exact pk_and x2 4 (by decide)) ?_
  refine xat 15 rfl ?_
  refine xi_istore (lv' := [some (.ref 0), some (.int x0), some (.int x1), some (.int x2), some (.int x3), some (.int x4), some (.int (nI y0)), some (.int (nI y1)), some (.int (nI y2)), none, none]) dX9_pack_15 (by decide) rfl ?_
  refine xi_iload dX9_pack_17 rfl ?_
  refine xi_ldc (v := 65535) dX9_pack_19 kcX9_160 ?_
  refine xe_iand dX9_pack_21 (v := nI y3) (by rw [ey3]; exact pk_and x3 16 (by decide)) ?_
  refine xi_istore (lv' := [some (.ref 0), some (.int x0), some (.int x1), some (.int x2), some (.int x3), some (.int x4), some (.int (nI y0)), some (.int (nI y1)), some (.int (nI y2)), some (.int (nI y3)), none]) dX9_pack_22 (by decide) rfl ?_
  refine xi_iload dX9_pack_24 rfl ?_
  refine xi_sipush (v := 255) dX9_pack_26 (by decide) ?_
  refine xe_iand dX9_pack_29 (v := nI y4) (by rw [ey4]; exact pk_and x4 8 (by decide)) ?_
  refine xi_istore (lv' := [some (.ref 0), some (.int x0), some (.int x1), some (.int x2), some (.int x3), some (.int x4), some (.int (nI y0)), some (.int (nI y1)), some (.int (nI y2)), some (.int (nI y3)), some (.int (nI y4))]) dX9_pack_30 (by decide) rfl ?_
  refine xi_iload dX9_pack_32 rfl ?_
  refine xi_iload dX9_pack_34 rfl ?_
  refine xi_iconst (v := 4) dX9_pack_36 rfl ?_
  refine xat 37 rfl ?_
  refine xe_ishl dX9_pack_37 (v := nI (y1 * 16)) (pk_shlN _ 4 (by decide) (by omega)) ?_
  refine xe_ior dX9_pack_38 (v := nI (y0 + y1 * 16)) (orI 4 (by omega)) ?_
  refine xi_iload dX9_pack_39 rfl ?_
  refine xi_bipush (v := 6) dX9_pack_41 (by decide) ?_
  refine xe_ishl dX9_pack_43 (v := nI (y2 * 64)) (pk_shlN _ 6 (by decide) (by omega)) ?_
  refine xe_ior dX9_pack_44 (v := nI (y0 + y1 * 16 + y2 * 64)) (orI 6 (by omega)) ?_
  refine xi_iload dX9_pack_45 rfl ?_
  refine xi_bipush (v := 10) dX9_pack_47 (by decide) ?_
  refine xe_ishl dX9_pack_49 (v := nI (y3 * 1024)) (pk_shlN _ 10 (by decide) (by omega)) ?_
  refine xe_ior dX9_pack_50 (v := nI (y0 + y1 * 16 + y2 * 64 + y3 * 1024)) (orI 10 (by omega)) ?_
  refine xi_iload dX9_pack_51 rfl ?_
  refine xi_iload dX9_pack_53 rfl ?_
  refine xat 55 rfl ?_
  refine xi_iload dX9_pack_55 rfl ?_
  refine xi_iload dX9_pack_57 rfl ?_
  refine xi_iload dX9_pack_59 rfl ?_
  refine xi_iload dX9_pack_61 rfl ?_
  refine xi_callS [.int (nI y0), .int (nI y1), .int (nI y2), .int (nI y3), .int (nI y4)] [.int (nI y4), .int (nI (y0 + y1 * 16 + y2 * 64 + y3 * 1024))] dX9_pack_63 zX0_sumOf mlX9_161 rfl rfl rfl (Nat.le_of_ble_eq_true rfl) (Nat.le_of_ble_eq_true rfl) ⟨by decide, by decide⟩ ?_
  refine k_sumOf (k := y0) (d := y1) (v := y2) (t := y3) (s := y4) (by omega) (by omega) (by omega) (by omega) (by omega) ?_
  show WP _ _ 66 _ [.int (nI (msum y0 y1 y2 y3 y4)), .int (nI y4), .int (nI (y0 + y1 * 16 + y2 * 64 + y3 * 1024))] _ _
  refine xi_callS [.int (nI (y0 + y1 * 16 + y2 * 64 + y3 * 1024)), .int (nI y4), .int (nI (msum y0 y1 y2 y3 y4))] [] dX9_pack_66 zX0_join mlX9_167 rfl rfl rfl (Nat.le_of_ble_eq_true rfl) (Nat.le_of_ble_eq_true rfl) ⟨by decide, by decide⟩ ?_
  have mb : msum y0 y1 y2 y3 y4 < 256 := Nat.mod_lt _ (by decide)
  refine k_join (l := y0 + y1 * 16 + y2 * 64 + y3 * 1024) (s := y4) (q := msum y0 y1 y2 y3 y4) (by omega) (by omega) (by omega) ?_
  show WP _ _ 69 _ [.long (nJ (y0 + y1 * 16 + y2 * 64 + y3 * 1024 + y4 * 67108864 + (msum y0 y1 y2 y3 y4) * 17179869184))] _ _
  refine xi_lret (v := nJ (y0 + y1 * 16 + y2 * 64 + y3 * 1024 + y4 * 67108864 + (msum y0 y1 y2 y3 y4) * 17179869184)) dX9_pack_69 rfl ?_
  rw [show a_pack x0 x1 x2 x3 x4 = nJ (y0 + y1 * 16 + y2 * 64 + y3 * 1024 + y4 * 67108864 + msum y0 y1 y2 y3 y4 * 17179869184) by unfold a_pack; rw [← ey0, ← ey1, ← ey2, ← ey3, ← ey4]] at h
  exact h

set_option maxHeartbeats 4000000 in
set_option maxRecDepth 100000 in
theorem mo_pack {M : xM} {Q : Option Value → xM → Prop} (x0 x1 x2 x3 x4 : Int32) (h : Q (some (.long (a_pack x0 x1 x2 x3 x4))) M) : WP shM mX10_pack 0 [some (.ref 0), some (.int x0), some (.int x1), some (.int x2), some (.int x3), some (.int x4), none, none, none, none, none, none] [] M Q := by
  obtain ⟨y0, ey0⟩ : ∃ y, y = x0.toBitVec.toNat % 16 := ⟨_, rfl⟩
  have by0 : y0 < 16 := by rw [ey0]; exact Nat.mod_lt _ (by decide)
  obtain ⟨y1, ey1⟩ : ∃ y, y = x1.toBitVec.toNat % 4 := ⟨_, rfl⟩
  have by1 : y1 < 4 := by rw [ey1]; exact Nat.mod_lt _ (by decide)
  obtain ⟨y2, ey2⟩ : ∃ y, y = x2.toBitVec.toNat % 16 := ⟨_, rfl⟩
  have by2 : y2 < 16 := by rw [ey2]; exact Nat.mod_lt _ (by decide)
  obtain ⟨y3, ey3⟩ : ∃ y, y = x3.toBitVec.toNat % 65536 := ⟨_, rfl⟩
  have by3 : y3 < 65536 := by rw [ey3]; exact Nat.mod_lt _ (by decide)
  obtain ⟨y4, ey4⟩ : ∃ y, y = x4.toBitVec.toNat % 256 := ⟨_, rfl⟩
  have by4 : y4 < 256 := by rw [ey4]; exact Nat.mod_lt _ (by decide)
  refine xi_iload_n dX10_pack_0 rfl ?_
  refine xi_bipush (v := 15) dX10_pack_1 (by decide) ?_
  refine xe_iand dX10_pack_3 (v := nI y0) (by rw [ey0]; exact pk_and x0 4 (by decide)) ?_
  refine xi_istore (lv' := [some (.ref 0), some (.int x0), some (.int x1), some (.int x2), some (.int x3), some (.int x4), some (.int (nI y0)), none, none, none, none, none]) dX10_pack_4 (by decide) rfl ?_
  refine xi_iload_n dX10_pack_6 rfl ?_
  refine xi_iconst (v := 3) dX10_pack_7 rfl ?_
  refine xe_iand dX10_pack_8 (v := nI y1) (by rw [ey1]; exact pk_and x1 2 (by decide)) ?_
  refine xi_istore (lv' := [some (.ref 0), some (.int x0), some (.int x1), some (.int x2), some (.int x3), some (.int x4), some (.int (nI y0)), some (.int (nI y1)), none, none, none, none]) dX10_pack_9 (by decide) rfl ?_
  refine xi_iload_n dX10_pack_11 rfl ?_
  refine xi_bipush (v := 15) dX10_pack_12 (by decide) ?_
  refine xe_iand dX10_pack_14 (v := nI y2) (by rw [ey2]; exact pk_and x2 4 (by decide)) ?_
  refine xat 15 rfl ?_
  refine xi_istore (lv' := [some (.ref 0), some (.int x0), some (.int x1), some (.int x2), some (.int x3), some (.int x4), some (.int (nI y0)), some (.int (nI y1)), some (.int (nI y2)), none, none, none]) dX10_pack_15 (by decide) rfl ?_
  refine xi_iload dX10_pack_17 rfl ?_
  refine xi_ldc (v := 65535) dX10_pack_19 kcX10_232 ?_
  refine xe_iand dX10_pack_21 (v := nI y3) (by rw [ey3]; exact pk_and x3 16 (by decide)) ?_
  refine xi_istore (lv' := [some (.ref 0), some (.int x0), some (.int x1), some (.int x2), some (.int x3), some (.int x4), some (.int (nI y0)), some (.int (nI y1)), some (.int (nI y2)), some (.int (nI y3)), none, none]) dX10_pack_22 (by decide) rfl ?_
  refine xi_iload dX10_pack_24 rfl ?_
  refine xi_sipush (v := 255) dX10_pack_26 (by decide) ?_
  refine xe_iand dX10_pack_29 (v := nI y4) (by rw [ey4]; exact pk_and x4 8 (by decide)) ?_
  refine xi_istore (lv' := [some (.ref 0), some (.int x0), some (.int x1), some (.int x2), some (.int x3), some (.int x4), some (.int (nI y0)), some (.int (nI y1)), some (.int (nI y2)), some (.int (nI y3)), some (.int (nI y4)), none]) dX10_pack_30 (by decide) rfl ?_
  refine xi_iload dX10_pack_32 rfl ?_
  refine xi_iconst (v := 3) dX10_pack_34 rfl ?_
  refine xi_iload dX10_pack_35 rfl ?_
  refine xat 37 rfl ?_
  refine xe_imul dX10_pack_37 (v := nI (3 * y1)) (pk_mul 3 y1) ?_
  refine xe_iadd dX10_pack_38 (v := nI (y0 + (3 * y1))) (nI_add y0 (3 * y1)) ?_
  refine xi_iconst (v := 5) dX10_pack_39 rfl ?_
  refine xi_iload dX10_pack_40 rfl ?_
  refine xe_imul dX10_pack_42 (v := nI (5 * y2)) (pk_mul 5 y2) ?_
  refine xe_iadd dX10_pack_43 (v := nI (y0 + (3 * y1) + (5 * y2))) (nI_add (y0 + (3 * y1)) (5 * y2)) ?_
  refine xi_bipush (v := 7) dX10_pack_44 (by decide) ?_
  refine xi_iload dX10_pack_46 rfl ?_
  refine xe_imul dX10_pack_48 (v := nI (7 * y3)) (pk_mul 7 y3) ?_
  refine xe_iadd dX10_pack_49 (v := nI (y0 + (3 * y1) + (5 * y2) + (7 * y3))) (nI_add (y0 + (3 * y1) + (5 * y2)) (7 * y3)) ?_
  refine xi_bipush (v := 11) dX10_pack_50 (by decide) ?_
  refine xi_iload dX10_pack_52 rfl ?_
  refine xat 54 rfl ?_
  refine xe_imul dX10_pack_54 (v := nI (11 * y4)) (pk_mul 11 y4) ?_
  refine xe_iadd dX10_pack_55 (v := nI (y0 + (3 * y1) + (5 * y2) + (7 * y3) + (11 * y4))) (nI_add (y0 + (3 * y1) + (5 * y2) + (7 * y3)) (11 * y4)) ?_
  refine xi_sipush (v := 255) dX10_pack_56 (by decide) ?_
  refine xe_iand dX10_pack_59 (v := nI (msum y0 y1 y2 y3 y4)) (pk_andN (by omega) 8 (by decide)) ?_
  have mb : msum y0 y1 y2 y3 y4 < 256 := Nat.mod_lt _ (by decide)
  refine xi_istore (lv' := [some (.ref 0), some (.int x0), some (.int x1), some (.int x2), some (.int x3), some (.int x4), some (.int (nI y0)), some (.int (nI y1)), some (.int (nI y2)), some (.int (nI y3)), some (.int (nI y4)), some (.int (nI (msum y0 y1 y2 y3 y4)))]) dX10_pack_60 (by decide) rfl ?_
  refine xi_iload dX10_pack_62 rfl ?_
  refine xi_i2l dX10_pack_64 ?_
  refine xtopj (y := nJ y0) (nJ_i2l (by omega)) ?_
  refine xi_iload dX10_pack_65 rfl ?_
  refine xi_i2l dX10_pack_67 ?_
  refine xtopj (y := nJ y1) (nJ_i2l (by omega)) ?_
  refine xi_iconst (v := 4) dX10_pack_68 rfl ?_
  refine xi_lshl dX10_pack_69 ?_
  refine xtopj (y := nJ (y1 * 16)) (shlJ y1 _ 4 (by decide) (by omega)) ?_
  refine xi_lor dX10_pack_70 ?_
  refine xtopj (y := nJ (y0 + y1 * 16)) (orJ 4 (by omega)) ?_
  refine xat 71 rfl ?_
  refine xi_iload dX10_pack_71 rfl ?_
  refine xi_i2l dX10_pack_73 ?_
  refine xtopj (y := nJ y2) (nJ_i2l (by omega)) ?_
  refine xi_bipush (v := 6) dX10_pack_74 (by decide) ?_
  refine xi_lshl dX10_pack_76 ?_
  refine xtopj (y := nJ (y2 * 64)) (shlJ y2 _ 6 (by decide) (by omega)) ?_
  refine xi_lor dX10_pack_77 ?_
  refine xtopj (y := nJ (y0 + y1 * 16 + y2 * 64)) (orJ 6 (by omega)) ?_
  refine xi_iload dX10_pack_78 rfl ?_
  refine xi_i2l dX10_pack_80 ?_
  refine xtopj (y := nJ y3) (nJ_i2l (by omega)) ?_
  refine xi_bipush (v := 10) dX10_pack_81 (by decide) ?_
  refine xi_lshl dX10_pack_83 ?_
  refine xtopj (y := nJ (y3 * 1024)) (shlJ y3 _ 10 (by decide) (by omega)) ?_
  refine xi_lor dX10_pack_84 ?_
  refine xtopj (y := nJ (y0 + y1 * 16 + y2 * 64 + y3 * 1024)) (orJ 10 (by omega)) ?_
  refine xi_iload dX10_pack_85 rfl ?_
  refine xi_i2l dX10_pack_87 ?_
  refine xtopj (y := nJ y4) (nJ_i2l (by omega)) ?_
  refine xat 88 rfl ?_
  refine xi_bipush (v := 26) dX10_pack_88 (by decide) ?_
  refine xi_lshl dX10_pack_90 ?_
  refine xtopj (y := nJ (y4 * 67108864)) (shlJ y4 _ 26 (by decide) (by omega)) ?_
  refine xi_lor dX10_pack_91 ?_
  refine xtopj (y := nJ (y0 + y1 * 16 + y2 * 64 + y3 * 1024 + y4 * 67108864)) (orJ 26 (by omega)) ?_
  refine xi_iload dX10_pack_92 rfl ?_
  refine xi_i2l dX10_pack_94 ?_
  refine xtopj (y := nJ (msum y0 y1 y2 y3 y4)) (nJ_i2l (by omega)) ?_
  refine xi_bipush (v := 34) dX10_pack_95 (by decide) ?_
  refine xi_lshl dX10_pack_97 ?_
  refine xtopj (y := nJ (msum y0 y1 y2 y3 y4 * 17179869184)) (shlJ _ _ 34 (by decide) (by omega)) ?_
  refine xi_lor dX10_pack_98 ?_
  refine xtopj (y := nJ (y0 + y1 * 16 + y2 * 64 + y3 * 1024 + y4 * 67108864 + msum y0 y1 y2 y3 y4 * 17179869184)) (orJ 34 (by omega)) ?_
  refine xi_lret (v := nJ (y0 + y1 * 16 + y2 * 64 + y3 * 1024 + y4 * 67108864 + msum y0 y1 y2 y3 y4 * 17179869184)) dX10_pack_99 rfl ?_
  rw [show a_pack x0 x1 x2 x3 x4 = nJ (y0 + y1 * 16 + y2 * 64 + y3 * 1024 + y4 * 67108864 + msum y0 y1 y2 y3 y4 * 17179869184) by unfold a_pack; rw [← ey0, ← ey1, ← ey2, ← ey3, ← ey4]] at h
  exact h

