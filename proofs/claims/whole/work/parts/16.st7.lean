theorem xz_eq0 {z : Int} (h1 : -2147483648 ≤ z) (h2 : z < 2147483648) : xz z = 0 ↔ z = 0 := by
  constructor
  · intro h
    have := congrArg Int32.toInt h
    rw [xz_toInt h1 h2] at this
    exact this
  · intro h
    rw [h]; rfl
theorem xz_le0 {z : Int} (h1 : -2147483648 ≤ z) (h2 : z < 2147483648) : xz z ≤ 0 ↔ z ≤ 0 := by
  rw [Int32.le_iff_toInt_le, xz_toInt h1 h2]; rfl
theorem xz_if_ne {sh : List xSh} {Y : xY} {pc : Nat} {lv : List (Option Value)} {st : List Value} {M : xM} {Q : Option Value → xM → Prop} {x : Int32} {off : Int} (z : Int) (tgt : Nat) (hd : decode Y.2.1 pc = .ok (.ifCond .ne off, 3)) (ht : (pc : Int) + off = (tgt : Int)) (hx : x = xz z) (h1 : -2147483648 ≤ z) (h2 : z < 2147483648) (kt : ¬ z = 0 → WP sh Y tgt lv st M Q) (kf : z = 0 → WP sh Y (pc + 3) lv st M Q) : WP sh Y pc lv (.int x :: st) M Q := by
  subst hx
  exact xi_if_ne tgt hd ht (fun h => kt (fun q => h ((xz_eq0 h1 h2).mpr q))) (fun h => kf ((xz_eq0 h1 h2).mp h))
theorem xz_if_le {sh : List xSh} {Y : xY} {pc : Nat} {lv : List (Option Value)} {st : List Value} {M : xM} {Q : Option Value → xM → Prop} {x : Int32} {off : Int} (z : Int) (tgt : Nat) (hd : decode Y.2.1 pc = .ok (.ifCond .le off, 3)) (ht : (pc : Int) + off = (tgt : Int)) (hx : x = xz z) (h1 : -2147483648 ≤ z) (h2 : z < 2147483648) (kt : z ≤ 0 → WP sh Y tgt lv st M Q) (kf : 0 < z → WP sh Y (pc + 3) lv st M Q) : WP sh Y pc lv (.int x :: st) M Q := by
  subst hx
  exact xi_if_le tgt hd ht (fun h => kt ((xz_le0 h1 h2).mp h)) (fun h => kf (by have := mt (xz_le0 h1 h2).mpr h; omega))
set_option maxHeartbeats 4000000 in
set_option maxRecDepth 100000 in
theorem l_tow81 {G : xG} {S : xS} {M : xM} {r : Nat} {Q : Option Value → xM → Prop} (hW : wG G) (hG : CG G M) (hr : isSt r) (hS : CS G S M r) (hw : wS G S) {n q : Nat} (hn : n < gT G) (hq : q < gT G) (hkn : gkind G n ≤ 2) (hkq : gkind G q ≤ 2) {o1 o2 : Option Nat} (e1 : mside G S n q = o1) (e2 : mupdn G S n q = o2) (h1 : ∀ k, o1 = some k → k < gN G) (h2 : ∀ k, o2 = some k → k < gN G) (h : Q (some (.int (xo (mtow G S n q)))) M) : WP shC mX6_cellTowards 81 [some (.ref r), some (.int (nI n)), some (.int (nI q)), some (.int (xz (mdx G (mpos S n) (mpos S q)))), some (.int (xz (mdy G (mpos S n) (mpos S q)))), some (.int (xo o1)), some (.int (xo o2))] [] M Q := by
  obtain ⟨b1, b2, b3, b4, b5, b6, b7, b8, b9, wmap, wlink, wk0, wk1, b10, b11, wword⟩ := id hW
  have hpn := mpos_at hW hw hn hkn
  have hpq := mpos_at hW hw hq hkq
  have bx := mdx_bd hW (mpos S n) (mpos S q)
  have by_ := mdy_bd hW hpn.2 hpq.2
  refine xi_iload_n dX6_cellTowards_81 rfl ?_
  refine xi_callS [.int (xz (mdx G (mpos S n) (mpos S q)))] [] dX6_cellTowards_82 zJ9_abs_0f7a4 mlX6_97 rfl rfl rfl (Nat.le_of_ble_eq_true rfl) (Nat.le_of_ble_eq_true rfl) ⟨by decide, by decide⟩ ?_
  refine k_abs (z := (mdx G (mpos S n) (mpos S q))) (by omega) (by omega) ?_
  show WP _ _ 85 _ [.int (nI ((mdx G (mpos S n) (mpos S q)).natAbs))] _ _
  refine xi_iload dX6_cellTowards_85 rfl ?_
  refine xi_callS [.int (xz (mdy G (mpos S n) (mpos S q)))] [.int (nI ((mdx G (mpos S n) (mpos S q)).natAbs))] dX6_cellTowards_87 zJ9_abs_0f7a4 mlX6_97 rfl rfl rfl (Nat.le_of_ble_eq_true rfl) (Nat.le_of_ble_eq_true rfl) ⟨by decide, by decide⟩ ?_
  refine k_abs (z := (mdy G (mpos S n) (mpos S q))) (by omega) (by omega) ?_
  show WP _ _ 90 _ [.int (nI ((mdy G (mpos S n) (mpos S q)).natAbs)), .int (nI ((mdx G (mpos S n) (mpos S q)).natAbs))] _ _
  refine xn_icmp_lt ((mdx G (mpos S n) (mpos S q)).natAbs) ((mdy G (mpos S n) (mpos S q)).natAbs) 110 dX6_cellTowards_90 (by decide) rfl rfl (by omega) (by omega) (fun h90 => ?_) (fun h90 => ?_)
  · skip
    refine xi_aload_n dX6_cellTowards_110 rfl ?_
    refine xi_iload dX6_cellTowards_111 rfl ?_
    refine xi_callV [.int (xo o2)] [] dX6_cellTowards_113 zX6_isFree mlX6_209 (so hr) rfl rfl rfl rfl rfl (Nat.le_of_ble_eq_true rfl) (Nat.le_of_ble_eq_true rfl) ⟨by decide, by decide⟩ ?_
    refine s_free hW hG hr hS hw (o := o2) h2 ?_
    show WP _ _ 116 _ [.int (xb (mfree G S o2))] _ _
    refine xb_if_eq (mfree G S o2) 124 dX6_cellTowards_116 (by decide) rfl (fun h116 => ?_) (fun h116 => ?_)
    · skip
      refine xi_iload dX6_cellTowards_124 rfl ?_
      refine xi_iret (v := xo o1) dX6_cellTowards_126 rfl ?_
      have e : mtow G S n q = o1 := by
        unfold mtow
        rw [e1, e2]
        rw [if_neg (by omega), if_neg (by simp [h116])]
      rw [e] at h
      exact h
    · skip
      refine xi_iload dX6_cellTowards_119 rfl ?_
      refine xi_goto 126 dX6_cellTowards_121 (by decide) ?_
      refine xi_iret (v := xo o2) dX6_cellTowards_126 rfl ?_
      have e : mtow G S n q = o2 := by
        unfold mtow
        rw [e1, e2]
        rw [if_neg (by omega), if_pos h116]
      rw [e] at h
      exact h
  · skip
    refine xi_aload_n dX6_cellTowards_93 rfl ?_
    refine xi_iload dX6_cellTowards_94 rfl ?_
    refine xi_callV [.int (xo o1)] [] dX6_cellTowards_96 zX6_isFree mlX6_209 (so hr) rfl rfl rfl rfl rfl (Nat.le_of_ble_eq_true rfl) (Nat.le_of_ble_eq_true rfl) ⟨by decide, by decide⟩ ?_
    refine s_free hW hG hr hS hw (o := o1) h1 ?_
    show WP _ _ 99 _ [.int (xb (mfree G S o1))] _ _
    refine xb_if_eq (mfree G S o1) 107 dX6_cellTowards_99 (by decide) rfl (fun h99 => ?_) (fun h99 => ?_)
    · skip
      refine xi_iload dX6_cellTowards_107 rfl ?_
      refine xi_iret (v := xo o2) dX6_cellTowards_109 rfl ?_
      have e : mtow G S n q = o2 := by
        unfold mtow
        rw [e1, e2]
        rw [if_pos (by omega), if_neg (by simp [h99])]
      rw [e] at h
      exact h
    · skip
      refine xi_iload dX6_cellTowards_102 rfl ?_
      refine xi_goto 109 dX6_cellTowards_104 (by decide) ?_
      refine xi_iret (v := xo o1) dX6_cellTowards_109 rfl ?_
      have e : mtow G S n q = o1 := by
        unfold mtow
        rw [e1, e2]
        rw [if_pos (by omega), if_pos h99]
      rw [e] at h
      exact h

set_option maxHeartbeats 4000000 in
set_option maxRecDepth 100000 in
theorem l_tow47 {G : xG} {S : xS} {M : xM} {r : Nat} {Q : Option Value → xM → Prop} (hW : wG G) (hG : CG G M) (hr : isSt r) (hS : CS G S M r) (hw : wS G S) {n q : Nat} (hn : n < gT G) (hq : q < gT G) (hkn : gkind G n ≤ 2) (hkq : gkind G q ≤ 2) {o1 : Option Nat} (e1 : mside G S n q = o1) (h1 : ∀ k, o1 = some k → k < gN G) (h : Q (some (.int (xo (mtow G S n q)))) M) : WP shC mX6_cellTowards 47 [some (.ref r), some (.int (nI n)), some (.int (nI q)), some (.int (xz (mdx G (mpos S n) (mpos S q)))), some (.int (xz (mdy G (mpos S n) (mpos S q)))), some (.int (xo o1)), none] [] M Q := by
  obtain ⟨b1, b2, b3, b4, b5, b6, b7, b8, b9, wmap, wlink, wk0, wk1, b10, b11, wword⟩ := id hW
  have hpn := mpos_at hW hw hn hkn
  have hpq := mpos_at hW hw hq hkq
  have bx := mdx_bd hW (mpos S n) (mpos S q)
  have by_ := mdy_bd hW hpn.2 hpq.2
  refine xi_iload dX6_cellTowards_47 rfl ?_
  refine xz_if_ne (mdy G (mpos S n) (mpos S q)) 56 dX6_cellTowards_49 (by decide) rfl (by omega) (by omega) ?_ ?_
  · intro h49
    refine xi_aload_n dX6_cellTowards_56 rfl ?_
    refine xi_getR dX6_cellTowards_57 fgX6_39 (so hr) rfl ?_
    refine xi_aload_n dX6_cellTowards_60 rfl ?_
    refine xi_getR dX6_cellTowards_61 fgX6_9 (so hr) rfl ?_
    refine xi_iload_n dX6_cellTowards_64 rfl ?_
    refine xe_iald (v := nI (mpos S n)) n dX6_cellTowards_65 (sa1 hr) (by decide) rfl (by omega) ((csC hS (by omega)).trans hpn.1) ?_
    refine xi_iload dX6_cellTowards_66 rfl ?_
    refine xz_if_le (mdy G (mpos S n) (mpos S q)) 75 dX6_cellTowards_68 (by decide) rfl (by omega) (by omega) ?_ ?_
    · intro h68
      refine xi_iconst (v := 0) dX6_cellTowards_75 rfl ?_
      refine xi_callV [.int (nI (mpos S n)), .int 0] [] dX6_cellTowards_76 zX1_nextTo mlX6_146 cc1 rfl rfl rfl rfl rfl (Nat.le_of_ble_eq_true rfl) (Nat.le_of_ble_eq_true rfl) ⟨by decide, by decide⟩ ?_
      refine g_next hW hG (k := mpos S n) (d := 0) (by omega) (by omega) ?_
      show WP _ _ 79 _ [.int (xo (mnext G (mpos S n) 0))] _ _
      generalize eo76 : mnext G (mpos S n) 0 = o76
      refine xi_istore (lv' := [some (.ref r), some (.int (nI n)), some (.int (nI q)), some (.int (xz (mdx G (mpos S n) (mpos S q)))), some (.int (xz (mdy G (mpos S n) (mpos S q)))), some (.int (xo o1)), some (.int (xo o76))]) dX6_cellTowards_79 (by decide) rfl ?_
      exact l_tow81 hW hG hr hS hw hn hq hkn hkq (o2 := o76) e1 (by rw [mupdn, if_neg h49, if_neg (by omega), eo76]) h1 (fun k z => mnext_lt hW hpn.2 (eo76.trans z)) h
    · intro h68
      refine xi_iconst (v := 2) dX6_cellTowards_71 rfl ?_
      refine xi_goto 76 dX6_cellTowards_72 (by decide) ?_
      refine xi_callV [.int (nI (mpos S n)), .int 2] [] dX6_cellTowards_76 zX1_nextTo mlX6_146 cc1 rfl rfl rfl rfl rfl (Nat.le_of_ble_eq_true rfl) (Nat.le_of_ble_eq_true rfl) ⟨by decide, by decide⟩ ?_
      refine g_next hW hG (k := mpos S n) (d := 2) (by omega) (by omega) ?_
      show WP _ _ 79 _ [.int (xo (mnext G (mpos S n) 2))] _ _
      generalize eo76 : mnext G (mpos S n) 2 = o76
      refine xi_istore (lv' := [some (.ref r), some (.int (nI n)), some (.int (nI q)), some (.int (xz (mdx G (mpos S n) (mpos S q)))), some (.int (xz (mdy G (mpos S n) (mpos S q)))), some (.int (xo o1)), some (.int (xo o76))]) dX6_cellTowards_79 (by decide) rfl ?_
      exact l_tow81 hW hG hr hS hw hn hq hkn hkq (o2 := o76) e1 (by rw [mupdn, if_neg h49, if_pos (by omega), eo76]) h1 (fun k z => mnext_lt hW hpn.2 (eo76.trans z)) h
  · intro h49
    refine xi_iconst (v := (-1)) dX6_cellTowards_52 rfl ?_
    refine xi_goto 79 dX6_cellTowards_53 (by decide) ?_
    refine xi_istore (lv' := [some (.ref r), some (.int (nI n)), some (.int (nI q)), some (.int (xz (mdx G (mpos S n) (mpos S q)))), some (.int (xz (mdy G (mpos S n) (mpos S q)))), some (.int (xo o1)), some (.int (-1))]) dX6_cellTowards_79 (by decide) rfl ?_
    exact l_tow81 hW hG hr hS hw hn hq hkn hkq (o2 := none) e1 (by rw [mupdn, if_pos h49]) h1 (fun k z => by cases z) h

set_option maxHeartbeats 4000000 in
set_option maxRecDepth 100000 in
theorem s_tow {G : xG} {S : xS} {M : xM} {r : Nat} {Q : Option Value → xM → Prop} (hW : wG G) (hG : CG G M) (hr : isSt r) (hS : CS G S M r) (hw : wS G S) {n q : Nat} (hn : n < gT G) (hq : q < gT G) (hkn : gkind G n ≤ 2) (hkq : gkind G q ≤ 2) (h : Q (some (.int (xo (mtow G S n q)))) M) : WP shC mX6_cellTowards 0 [some (.ref r), some (.int (nI n)), some (.int (nI q)), none, none, none, none] [] M Q := by
  obtain ⟨b1, b2, b3, b4, b5, b6, b7, b8, b9, wmap, wlink, wk0, wk1, b10, b11, wword⟩ := id hW
  have hpn := mpos_at hW hw hn hkn
  have hpq := mpos_at hW hw hq hkq
  have bx := mdx_bd hW (mpos S n) (mpos S q)
  have by_ := mdy_bd hW hpn.2 hpq.2
  refine xi_aload_n dX6_cellTowards_0 rfl ?_
  refine xi_iload_n dX6_cellTowards_1 rfl ?_
  refine xi_iload_n dX6_cellTowards_2 rfl ?_
  refine xi_callV [.int (nI n), .int (nI q)] [] dX6_cellTowards_3 zX6_columnsBetween mlX6_221 (so hr) rfl rfl rfl rfl rfl (Nat.le_of_ble_eq_true rfl) (Nat.le_of_ble_eq_true rfl) ⟨by decide, by decide⟩ ?_
  refine s_cols hW hG hr hS hw (n := n) (m := q) (by omega) (by omega) (by omega) (by omega) ?_
  show WP _ _ 6 _ [.int (xz (mdx G (mpos S n) (mpos S q)))] _ _
  refine xi_istore_n (lv' := [some (.ref r), some (.int (nI n)), some (.int (nI q)), some (.int (xz (mdx G (mpos S n) (mpos S q)))), none, none, none]) dX6_cellTowards_6 (by decide) rfl ?_
  refine xi_aload_n dX6_cellTowards_7 rfl ?_
  refine xi_iload_n dX6_cellTowards_8 rfl ?_
  refine xi_iload_n dX6_cellTowards_9 rfl ?_
  refine xi_callV [.int (nI n), .int (nI q)] [] dX6_cellTowards_10 zX6_rowsBetween mlX6_224 (so hr) rfl rfl rfl rfl rfl (Nat.le_of_ble_eq_true rfl) (Nat.le_of_ble_eq_true rfl) ⟨by decide, by decide⟩ ?_
  refine s_rows hW hG hr hS hw (n := n) (m := q) (by omega) (by omega) (by omega) (by omega) ?_
  show WP _ _ 13 _ [.int (xz (mdy G (mpos S n) (mpos S q)))] _ _
  refine xi_istore (lv' := [some (.ref r), some (.int (nI n)), some (.int (nI q)), some (.int (xz (mdx G (mpos S n) (mpos S q)))), some (.int (xz (mdy G (mpos S n) (mpos S q)))), none, none]) dX6_cellTowards_13 (by decide) rfl ?_
  refine xi_iload_n dX6_cellTowards_15 rfl ?_
  refine xz_if_ne (mdx G (mpos S n) (mpos S q)) 23 dX6_cellTowards_16 (by decide) rfl (by omega) (by omega) ?_ ?_
  · intro h16
    refine xi_aload_n dX6_cellTowards_23 rfl ?_
    refine xi_getR dX6_cellTowards_24 fgX6_39 (so hr) rfl ?_
    refine xi_aload_n dX6_cellTowards_27 rfl ?_
    refine xi_getR dX6_cellTowards_28 fgX6_9 (so hr) rfl ?_
    refine xi_iload_n dX6_cellTowards_31 rfl ?_
    refine xe_iald (v := nI (mpos S n)) n dX6_cellTowards_32 (sa1 hr) (by decide) rfl (by omega) ((csC hS (by omega)).trans hpn.1) ?_
    refine xi_iload_n dX6_cellTowards_33 rfl ?_
    refine xz_if_le (mdx G (mpos S n) (mpos S q)) 41 dX6_cellTowards_34 (by decide) rfl (by omega) (by omega) ?_ ?_
    · intro h34
      refine xi_iconst (v := 3) dX6_cellTowards_41 rfl ?_
      refine xi_callV [.int (nI (mpos S n)), .int 3] [] dX6_cellTowards_42 zX1_nextTo mlX6_146 cc1 rfl rfl rfl rfl rfl (Nat.le_of_ble_eq_true rfl) (Nat.le_of_ble_eq_true rfl) ⟨by decide, by decide⟩ ?_
      refine g_next hW hG (k := mpos S n) (d := 3) (by omega) (by omega) ?_
      show WP _ _ 45 _ [.int (xo (mnext G (mpos S n) 3))] _ _
      generalize eo42 : mnext G (mpos S n) 3 = o42
      refine xi_istore (lv' := [some (.ref r), some (.int (nI n)), some (.int (nI q)), some (.int (xz (mdx G (mpos S n) (mpos S q)))), some (.int (xz (mdy G (mpos S n) (mpos S q)))), some (.int (xo o42)), none]) dX6_cellTowards_45 (by decide) rfl ?_
      exact l_tow47 hW hG hr hS hw hn hq hkn hkq (o1 := o42) (by rw [mside, if_neg h16, if_neg (by omega), eo42]) (fun k z => mnext_lt hW hpn.2 (eo42.trans z)) h
    · intro h34
      refine xi_iconst (v := 1) dX6_cellTowards_37 rfl ?_
      refine xi_goto 42 dX6_cellTowards_38 (by decide) ?_
      refine xi_callV [.int (nI (mpos S n)), .int 1] [] dX6_cellTowards_42 zX1_nextTo mlX6_146 cc1 rfl rfl rfl rfl rfl (Nat.le_of_ble_eq_true rfl) (Nat.le_of_ble_eq_true rfl) ⟨by decide, by decide⟩ ?_
      refine g_next hW hG (k := mpos S n) (d := 1) (by omega) (by omega) ?_
      show WP _ _ 45 _ [.int (xo (mnext G (mpos S n) 1))] _ _
      generalize eo42 : mnext G (mpos S n) 1 = o42
      refine xi_istore (lv' := [some (.ref r), some (.int (nI n)), some (.int (nI q)), some (.int (xz (mdx G (mpos S n) (mpos S q)))), some (.int (xz (mdy G (mpos S n) (mpos S q)))), some (.int (xo o42)), none]) dX6_cellTowards_45 (by decide) rfl ?_
      exact l_tow47 hW hG hr hS hw hn hq hkn hkq (o1 := o42) (by rw [mside, if_neg h16, if_pos (by omega), eo42]) (fun k z => mnext_lt hW hpn.2 (eo42.trans z)) h
  · intro h16
    refine xi_iconst (v := (-1)) dX6_cellTowards_19 rfl ?_
    refine xi_goto 45 dX6_cellTowards_20 (by decide) ?_
    refine xi_istore (lv' := [some (.ref r), some (.int (nI n)), some (.int (nI q)), some (.int (xz (mdx G (mpos S n) (mpos S q)))), some (.int (xz (mdy G (mpos S n) (mpos S q)))), some (.int (-1)), none]) dX6_cellTowards_45 (by decide) rfl ?_
    exact l_tow47 hW hG hr hS hw hn hq hkn hkq (o1 := none) (by rw [mside, if_pos h16]) (fun k z => by cases z) h

set_option maxHeartbeats 4000000 in
set_option maxRecDepth 100000 in
theorem l_near {G : xG} {S : xS} {M : xM} {r : Nat} {Q : Option Value → xM → Prop} (hW : wG G) (hG : CG G M) (hr : isSt r) (hS : CS G S M r) (hw : wS G S) {n : Nat} (hn : n < gT G) (hkn : gkind G n ≤ 2) : ∀ (f p : Nat) (b : Option Nat), p + f = gP G → (∀ q, b = some q → q < gP G) → Q (some (.int (xo (mnear G S n p f b)))) M → WP shC mX6_nearestTo 4 [some (.ref r), some (.int (nI n)), some (.int (xo b)), some (.int (nI p))] [] M Q := by
  obtain ⟨b1, b2, b3, b4, b5, b6, b7, b8, b9, wmap, wlink, wk0, wk1, b10, b11, wword⟩ := id hW
  have hpn := mpos_at hW hw hn hkn
  intro f
  induction f with
  | zero =>
    intro p b hf hb h
    refine xi_iload_n dX6_nearestTo_4 rfl ?_
    refine xi_aload_n dX6_nearestTo_5 rfl ?_
    refine xi_getR dX6_nearestTo_6 fgX6_39 (so hr) rfl ?_
    refine xe_getI (v := nI (gP G)) dX6_nearestTo_9 fgX6_49 cc1 rfl (cg_P hG) ?_
    refine xn_icmp_ge p (gP G) 71 dX6_nearestTo_12 (by decide) rfl rfl (by omega) (by omega) (fun h12 => ?_) (fun h12 => ?_)
    · skip
      refine xi_iload_n dX6_nearestTo_71 rfl ?_
      refine xi_iret (v := xo b) dX6_nearestTo_72 rfl ?_
      exact h
    · omega
  | succ f ih =>
    intro p b hf hb h
    refine xi_iload_n dX6_nearestTo_4 rfl ?_
    refine xi_aload_n dX6_nearestTo_5 rfl ?_
    refine xi_getR dX6_nearestTo_6 fgX6_39 (so hr) rfl ?_
    refine xe_getI (v := nI (gP G)) dX6_nearestTo_9 fgX6_49 cc1 rfl (cg_P hG) ?_
    refine xn_icmp_ge p (gP G) 71 dX6_nearestTo_12 (by decide) rfl rfl (by omega) (by omega) (fun h12 => ?_) (fun h12 => ?_)
    · omega
    · skip
      have hp : p < gP G := by omega
      have hmp := mpos_P hW hw hp
      have hkp := wk0 p hp
      refine xi_aload_n dX6_nearestTo_15 rfl ?_
      refine xi_getR dX6_nearestTo_16 fgX6_15 (so hr) rfl ?_
      refine xi_iload_n dX6_nearestTo_19 rfl ?_
      have q1 := (hw).2.1 p (by omega)
      refine xe_iald (v := nI (sL S p)) p dX6_nearestTo_20 (sa2 hr) (by decide) rfl (by omega) (csL hS (by omega)) ?_
      refine xn_if_le (sL S p) 65 dX6_nearestTo_21 (by decide) rfl (by omega) (fun h21 => ?_) (fun h21 => ?_)
      · skip
        refine xi_iinc (v := nI (p + 1)) (lv' := [some (.ref r), some (.int (nI n)), some (.int (xo b)), some (.int (nI (p + 1)))]) dX6_nearestTo_65 rfl (xinc p) (by decide) rfl ?_
        refine xi_goto 4 dX6_nearestTo_68 (by decide) ?_
        rw [mnear, if_neg (fun w => by omega)] at h
        exact ih (p + 1) b (by omega) (fun z e => by exact hb z e) h
      · skip
        refine xi_aload_n dX6_nearestTo_24 rfl ?_
        refine xi_aload_n dX6_nearestTo_25 rfl ?_
        refine xi_getR dX6_nearestTo_26 fgX6_9 (so hr) rfl ?_
        refine xi_iload_n dX6_nearestTo_29 rfl ?_
        refine xe_iald (v := nI (mpos S n)) n dX6_nearestTo_30 (sa1 hr) (by decide) rfl (by omega) ((csC hS (by omega)).trans hpn.1) ?_
        refine xi_aload_n dX6_nearestTo_31 rfl ?_
        refine xi_getR dX6_nearestTo_32 fgX6_9 (so hr) rfl ?_
        refine xi_iload_n dX6_nearestTo_35 rfl ?_
        refine xe_iald (v := nI (mpos S p)) p dX6_nearestTo_36 (sa1 hr) (by decide) rfl (by omega) ((csC hS (by omega)).trans hmp.1) ?_
        refine xi_iconst (v := 4) dX6_nearestTo_37 rfl ?_
        refine xi_callV [.int (nI (mpos S n)), .int (nI (mpos S p)), .int 4] [] dX6_nearestTo_38 zX6_reaches mlX6_116 (so hr) rfl rfl rfl rfl rfl (Nat.le_of_ble_eq_true rfl) (Nat.le_of_ble_eq_true rfl) ⟨by decide, by decide⟩ ?_
        refine s_reach hW hG hr hS (a := mpos S n) (b := mpos S p) (R := 4) (by omega) (by omega) (by omega) ?_
        show WP _ _ 41 _ [.int (xb (msee G S (mpos S n) (mpos S p) 4))] _ _
        refine xb_if_eq (msee G S (mpos S n) (mpos S p) 4) 65 dX6_nearestTo_41 (by decide) rfl (fun h41 => ?_) (fun h41 => ?_)
        · skip
          refine xi_iinc (v := nI (p + 1)) (lv' := [some (.ref r), some (.int (nI n)), some (.int (xo b)), some (.int (nI (p + 1)))]) dX6_nearestTo_65 rfl (xinc p) (by decide) rfl ?_
          refine xi_goto 4 dX6_nearestTo_68 (by decide) ?_
          rw [mnear, if_neg (fun w => by rw [h41] at w; cases w.2.1)] at h
          exact ih (p + 1) b (by omega) (fun z e => by exact hb z e) h
        · skip
          refine xi_iload_n dX6_nearestTo_44 rfl ?_
          refine xo_if_lt b 63 dX6_nearestTo_45 (by decide) rfl (fun q z => by have := hb q z; omega) (fun h45 => ?_) (fun q h45 => ?_)
          · subst h45
            refine xi_iload_n dX6_nearestTo_63 rfl ?_
            refine xi_istore_n (lv' := [some (.ref r), some (.int (nI n)), some (.int (nI p)), some (.int (nI p))]) dX6_nearestTo_64 (by decide) rfl ?_
            refine xi_iinc (v := nI (p + 1)) (lv' := [some (.ref r), some (.int (nI n)), some (.int (nI p)), some (.int (nI (p + 1)))]) dX6_nearestTo_65 rfl (xinc p) (by decide) rfl ?_
            refine xi_goto 4 dX6_nearestTo_68 (by decide) ?_
            rw [mnear, if_pos ⟨h21, h41, fun z e => by cases e⟩] at h
            exact ih (p + 1) (some p) (by omega) (fun z e => by cases e; omega) h
          · subst h45
            have hq := hb q rfl
            have hkq := wk0 q hq
            have d1 : mdist G S n p < 100 := by have := mdx_bd hW (mpos S n) (mpos S p); have := mdy_bd hW hpn.2 hmp.2; unfold mdist; omega
            have d2 : mdist G S n q < 100 := by have := mdx_bd hW (mpos S n) (mpos S q); have := mdy_bd hW hpn.2 (mpos_P hW hw hq).2; unfold mdist; omega
            refine xi_aload_n dX6_nearestTo_48 rfl ?_
            refine xi_iload_n dX6_nearestTo_49 rfl ?_
            refine xi_iload_n dX6_nearestTo_50 rfl ?_
            refine xi_callV [.int (nI n), .int (nI p)] [] dX6_nearestTo_51 zX6_distance mlX6_215 (so hr) rfl rfl rfl rfl rfl (Nat.le_of_ble_eq_true rfl) (Nat.le_of_ble_eq_true rfl) ⟨by decide, by decide⟩ ?_
            refine s_dist hW hG hr hS hw (n := n) (m := p) (by omega) (by omega) (by omega) (by omega) ?_
            show WP _ _ 54 _ [.int (nI (mdist G S n p))] _ _
            refine xi_aload_n dX6_nearestTo_54 rfl ?_
            refine xi_iload_n dX6_nearestTo_55 rfl ?_
            refine xi_iload_n dX6_nearestTo_56 rfl ?_
            refine xi_callV [.int (nI n), .int (xo (some q))] [.int (nI (mdist G S n p))] dX6_nearestTo_57 zX6_distance mlX6_215 (so hr) rfl rfl rfl rfl rfl (Nat.le_of_ble_eq_true rfl) (Nat.le_of_ble_eq_true rfl) ⟨by decide, by decide⟩ ?_
            refine s_dist hW hG hr hS hw (n := n) (m := q) (by omega) (by omega) (by omega) (by omega) ?_
            show WP _ _ 60 _ [.int (nI (mdist G S n q)), .int (nI (mdist G S n p))] _ _
            refine xn_icmp_ge (mdist G S n p) (mdist G S n q) 65 dX6_nearestTo_60 (by decide) rfl rfl (by omega) (by omega) (fun h60 => ?_) (fun h60 => ?_)
            · skip
              refine xi_iinc (v := nI (p + 1)) (lv' := [some (.ref r), some (.int (nI n)), some (.int (xo (some q))), some (.int (nI (p + 1)))]) dX6_nearestTo_65 rfl (xinc p) (by decide) rfl ?_
              refine xi_goto 4 dX6_nearestTo_68 (by decide) ?_
              rw [mnear, if_neg (fun w => by have := w.2.2 _ rfl; omega)] at h
              exact ih (p + 1) (some q) (by omega) (fun z e => by cases e; omega) h
            · skip
              refine xi_iload_n dX6_nearestTo_63 rfl ?_
              refine xi_istore_n (lv' := [some (.ref r), some (.int (nI n)), some (.int (nI p)), some (.int (nI p))]) dX6_nearestTo_64 (by decide) rfl ?_
              refine xi_iinc (v := nI (p + 1)) (lv' := [some (.ref r), some (.int (nI n)), some (.int (nI p)), some (.int (nI (p + 1)))]) dX6_nearestTo_65 rfl (xinc p) (by decide) rfl ?_
              refine xi_goto 4 dX6_nearestTo_68 (by decide) ?_
              rw [mnear, if_pos ⟨h21, h41, fun z e => by cases e; exact h60⟩] at h
              exact ih (p + 1) (some p) (by omega) (fun z e => by cases e; omega) h

set_option maxHeartbeats 4000000 in
set_option maxRecDepth 100000 in
theorem s_near {G : xG} {S : xS} {M : xM} {r : Nat} {Q : Option Value → xM → Prop} (hW : wG G) (hG : CG G M) (hr : isSt r) (hS : CS G S M r) (hw : wS G S) {n : Nat} (hn : n < gT G) (hkn : gkind G n ≤ 2) (h : Q (some (.int (xo (mprey G S n)))) M) : WP shC mX6_nearestTo 0 [some (.ref r), some (.int (nI n)), none, none] [] M Q := by
  obtain ⟨b1, b2, b3, b4, b5, b6, b7, b8, b9, wmap, wlink, wk0, wk1, b10, b11, wword⟩ := id hW
  refine xi_iconst (v := (-1)) dX6_nearestTo_0 rfl ?_
  refine xi_istore_n (lv' := [some (.ref r), some (.int (nI n)), some (.int (-1)), none]) dX6_nearestTo_1 (by decide) rfl ?_
  refine xi_iconst (v := 0) dX6_nearestTo_2 rfl ?_
  refine xi_istore_n (lv' := [some (.ref r), some (.int (nI n)), some (.int (-1)), some (.int 0)]) dX6_nearestTo_3 (by decide) rfl ?_
  exact l_near hW hG hr hS hw hn hkn (gP G) 0 none (by omega) (fun q z => by cases z) h

