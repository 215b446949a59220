theorem nJ_lt {a b : Nat} (ha : a < 2 ^ 63) (hb : b < 2 ^ 63) : nJ a < nJ b ↔ a < b := by
  rw [Int64.lt_iff_toInt_lt, nJ_toInt ha, nJ_toInt hb]; omega
def xp : Nat → Int32
  | 0 => -1
  | f + 1 => nI f
theorem xp_dec (f : Nat) : nI f + Int32.ofInt (-1) = xp f := by
  cases f with
  | zero => rfl
  | succ f => exact xdec f
/-- in the model's cells, the k-th -/
def MO (o : xO) (M : xM) (k : Nat) : Prop := (∀ i, i < 65 → M.2.2 15 (65 * k + i) = nJ (oT o i)) ∧ M.2.1 12 k = nI (on o) ∧ M.2.1 13 k = nI (os o) ∧ M.2.1 14 k = nI (om o)
def FQ (k : Nat) (M M2 : xM) : Prop := M2.1 = M.1 ∧ (∀ a, ¬ a = 12 → ¬ a = 13 → ¬ a = 14 → M2.2.1 a = M.2.1 a) ∧ (∀ i, ¬ i = k → M2.2.1 12 i = M.2.1 12 i ∧ M2.2.1 13 i = M.2.1 13 i ∧ M2.2.1 14 i = M.2.1 14 i) ∧ (∀ a, ¬ a = 15 → M2.2.2 a = M.2.2 a) ∧ ∀ i, (i < 65 * k ∨ 65 * k + 65 ≤ i) → M2.2.2 15 i = M.2.2 15 i
theorem FQ.rf {k : Nat} {M : xM} : FQ k M M := ⟨rfl, fun _ _ _ _ => rfl, fun _ _ => ⟨rfl, rfl, rfl⟩, fun _ _ => rfl, fun _ _ => rfl⟩
theorem FQ.tr {k : Nat} {M M1 M2 : xM} (h : FQ k M M1) (h2 : FQ k M1 M2) : FQ k M M2 := ⟨h2.1.trans h.1, fun a q1 q2 q3 => (h2.2.1 a q1 q2 q3).trans (h.2.1 a q1 q2 q3), fun i q => ⟨(h2.2.2.1 i q).1.trans (h.2.2.1 i q).1, (h2.2.2.1 i q).2.1.trans (h.2.2.1 i q).2.1, (h2.2.2.1 i q).2.2.trans (h.2.2.1 i q).2.2⟩, fun a q => (h2.2.2.2.1 a q).trans (h.2.2.2.1 a q), fun i q => (h2.2.2.2.2 i q).trans (h.2.2.2.2 i q)⟩
theorem updL_s {f : Nat → Int64} {k : Nat} {x : Int64} : vp_updL f k x k = x := if_pos rfl
theorem updL_n {f : Nat → Int64} {k j : Nat} {x : Int64} (h : ¬ j = k) : vp_updL f k x j = f j := if_neg h
theorem xj_s {M : xM} {a : Nat} {f : Nat → Int64} : (xj M a f).2.2 a = f := if_pos rfl
theorem xj_n {M : xM} {a b : Nat} {f : Nat → Int64} (h : ¬ b = a) : (xj M a f).2.2 b = M.2.2 b := if_neg h
theorem FQ.xj {k i : Nat} {M : xM} {v : Int64} (h : i < 65) : FQ k M (xj M 15 (vp_updL (M.2.2 15) (65 * k + i) v)) := ⟨rfl, fun _ _ _ _ => rfl, fun _ _ => ⟨rfl, rfl, rfl⟩, fun _ q => xj_n q, fun j q => by rw [xj_s, updL_n (by omega)]⟩
theorem FQ.xa {k a : Nat} {M : xM} {v : Int32} (h : a = 12 ∨ a = 13 ∨ a = 14) : FQ k M (xa M a (upd (M.2.1 a) k v)) := by
  refine ⟨rfl, fun b q1 q2 q3 => xa_n (by omega), fun i q => ?_, fun _ _ => rfl, fun _ _ => rfl⟩
  rcases h with rfl | rfl | rfl
  · exact ⟨by rw [xa_s, upd_n q], by rw [xa_n (by decide)], by rw [xa_n (by decide)]⟩
  · exact ⟨by rw [xa_n (by decide)], by rw [xa_s, upd_n q], by rw [xa_n (by decide)]⟩
  · exact ⟨by rw [xa_n (by decide)], by rw [xa_n (by decide)], by rw [xa_s, upd_n q]⟩
set_option maxHeartbeats 4000000 in
set_option maxRecDepth 100000 in
theorem nl_tail {M : xM} {Q : Option Value → xM → Prop} {T : Nat → Nat} {k : Nat} (hk : k < 8) (hR : ∀ i, i < 65 → M.2.2 15 (65 * k + i) = nJ (T i)) : ∀ (f i a : Nat), i + f = 65 → Q (some (.long (nJ (mtlS T i f a)))) M → WP shM mX10_tailOf 10 [some (.ref 0), some (.int (nI k)), some (.long (nJ a)), none, some (.int (nI i))] [] M Q := by
  intro f
  induction f with
  | zero =>
    intro i a hf h
    refine xi_iload dX10_tailOf_10 rfl ?_
    refine xi_bipush (v := 65) dX10_tailOf_12 (by decide) ?_
    refine xn_icmp_ge i 65 38 dX10_tailOf_14 (by decide) rfl rfl (by omega) (by omega) (fun h14 => ?_) (fun h14 => ?_)
    · skip
      refine xi_lload_n dX10_tailOf_38 rfl ?_
      refine xi_lret (v := nJ a) dX10_tailOf_39 rfl ?_
      exact h
    · omega
  | succ f ih =>
    intro i a hf h
    refine xi_iload dX10_tailOf_10 rfl ?_
    refine xi_bipush (v := 65) dX10_tailOf_12 (by decide) ?_
    refine xn_icmp_ge i 65 38 dX10_tailOf_14 (by decide) rfl rfl (by omega) (by omega) (fun h14 => ?_) (fun h14 => ?_)
    · omega
    · skip
      refine xi_lload_n dX10_tailOf_17 rfl ?_
      refine xi_aload_n dX10_tailOf_18 rfl ?_
      refine xi_getR dX10_tailOf_19 fgX10_70 mm0 rfl ?_
      refine xi_bipush (v := 65) dX10_tailOf_22 (by decide) ?_
      refine xi_iload_n dX10_tailOf_24 rfl ?_
      refine xe_imul dX10_tailOf_25 (v := nI (65 * k)) (pk_mul 65 k) ?_
      refine xi_iload dX10_tailOf_26 rfl ?_
      refine xe_iadd dX10_tailOf_28 (v := nI (65 * k + i)) (nI_add (65 * k) i) ?_
      refine xe_lald (v := nJ (T i)) (65 * k + i) dX10_tailOf_29 mm15 (by decide) rfl (by omega) (hR i (by omega)) ?_
      refine xi_ladd dX10_tailOf_30 ?_
      refine xtopj (y := nJ (a + (T i))) (nJ_add _ _) ?_
      refine xi_lstore_n (lv' := [some (.ref 0), some (.int (nI k)), some (.long (nJ (a + (T i)))), none, some (.int (nI i))]) dX10_tailOf_31 (by decide) rfl ?_
      refine xat 32 rfl ?_
      refine xi_iinc (v := nI (i + 1)) (lv' := [some (.ref 0), some (.int (nI k)), some (.long (nJ (a + (T i)))), none, some (.int (nI (i + 1)))]) dX10_tailOf_32 rfl (xinc i) (by decide) rfl ?_
      refine xi_goto 10 dX10_tailOf_35 (by decide) ?_
      exact ih (i + 1) (a + T i) (by omega) h

set_option maxHeartbeats 4000000 in
set_option maxRecDepth 100000 in
theorem n_tail {M : xM} {Q : Option Value → xM → Prop} {T : Nat → Nat} {k : Nat} (hk : k < 8) (hR : ∀ i, i < 65 → M.2.2 15 (65 * k + i) = nJ (T i)) {s : Nat} (hs64 : s ≤ 64) (hs : M.2.1 13 k = nI s) (h : Q (some (.long (nJ (mtail T s)))) M) : WP shM mX10_tailOf 0 [some (.ref 0), some (.int (nI k)), none, none, none] [] M Q := by
  refine xi_lconst (v := 0) dX10_tailOf_0 rfl ?_
  refine xtopj (y := nJ 0) rfl ?_
  refine xi_lstore_n (lv' := [some (.ref 0), some (.int (nI k)), some (.long (nJ 0)), none, none]) dX10_tailOf_1 (by decide) rfl ?_
  refine xi_aload_n dX10_tailOf_2 rfl ?_
  refine xi_getR dX10_tailOf_3 fgX10_64 mm0 rfl ?_
  refine xi_iload_n dX10_tailOf_6 rfl ?_
  refine xe_iald (v := nI s) k dX10_tailOf_7 mm13 (by decide) rfl (by omega) hs ?_
  refine xi_istore (lv' := [some (.ref 0), some (.int (nI k)), some (.long (nJ 0)), none, some (.int (nI s))]) dX10_tailOf_8 (by decide) rfl ?_
  exact nl_tail hk hR (65 - s) s 0 (by omega) h

set_option maxHeartbeats 4000000 in
set_option maxRecDepth 100000 in
theorem nl_tried {Q : Option Value → xM → Prop} {T : Nat → Nat} {c k : Nat} (hk : k < 8) (hT : ∀ k, T k ≤ 1048576) (hc : c ≤ 1048576) {b : Bool} : ∀ (f : Nat) (M : xM), f ≤ 65 → (∀ i, i < 65 → M.2.2 15 (65 * k + i) = nJ (if f ≤ i then mspr T c i else T i)) → (∀ M2, FQ k M M2 → M2.2.1 = M.2.1 → (∀ i, i < 65 → M2.2.2 15 (65 * k + i) = nJ (mspr T c i)) → WP shM mX10_tried 91 [some (.ref 0), some (.int (nI k)), some (.long (nJ c)), none, some (.int (xb b)), some (.int (-1)), none, none] [] M2 Q) → WP shM mX10_tried 16 [some (.ref 0), some (.int (nI k)), some (.long (nJ c)), none, some (.int (xb b)), some (.int (xp f)), none, none] [] M Q := by
  intro f
  induction f with
  | zero =>
    intro M hf hR h
    show WP shM mX10_tried 16 [some (.ref 0), some (.int (nI k)), some (.long (nJ c)), none, some (.int (xb b)), some (.int (-1)), none, none] [] M Q
    refine xi_iload dX10_tried_16 rfl ?_
    refine xi_if_lt 91 dX10_tried_18 (by decide) (fun h18 => ?_) (fun h18 => ?_)
    · skip
      exact h M FQ.rf rfl (fun i hi => by rw [hR i hi, if_pos (by omega)])
    · exact absurd (by decide) h18
  | succ f ih =>
    intro M hf hR h
    show WP shM mX10_tried 16 [some (.ref 0), some (.int (nI k)), some (.long (nJ c)), none, some (.int (xb b)), some (.int (nI f)), none, none] [] M Q
    have n1 := mspr_n (k := f) hT hc
    have t1 := hT f
    have t0 := hT (f - 1)
    refine xi_iload dX10_tried_16 rfl ?_
    refine xn_if_lt f 91 dX10_tried_18 (by decide) rfl (by omega) ?_
    refine xi_iload dX10_tried_21 rfl ?_
    refine xn_if_ne f 30 dX10_tried_23 (by decide) rfl (by omega) (fun h23 => ?_) (fun h23 => ?_)
    · skip
      refine xi_aload_n dX10_tried_30 rfl ?_
      refine xi_getR dX10_tried_31 fgX10_70 mm0 rfl ?_
      refine xi_bipush (v := 65) dX10_tried_34 (by decide) ?_
      refine xi_iload_n dX10_tried_36 rfl ?_
      refine xe_imul dX10_tried_37 (v := nI (65 * k)) (pk_mul 65 k) ?_
      refine xi_iload dX10_tried_38 rfl ?_
      refine xe_iadd dX10_tried_40 (v := nI (65 * k + f)) (nI_add (65 * k) f) ?_
      refine xi_iconst (v := 1) dX10_tried_41 rfl ?_
      refine xe_isub dX10_tried_42 (v := nI (65 * k + (f - 1))) ((pk_sub (a := 65 * k + f) (b := 1) (by omega)).trans (congrArg nI (by omega))) ?_
      refine xe_lald (v := nJ (T (f - 1))) (65 * k + (f - 1)) dX10_tried_43 mm15 (by decide) rfl (by omega) ((hR (f - 1) (by omega)).trans (by rw [if_neg (by omega)])) ?_
      refine xi_lstore (lv' := [some (.ref 0), some (.int (nI k)), some (.long (nJ c)), none, some (.int (xb b)), some (.int (nI f)), some (.long (nJ (T (f - 1)))), none]) dX10_tried_44 (by decide) rfl ?_
      refine xat 46 rfl ?_
      refine xi_aload_n dX10_tried_46 rfl ?_
      refine xi_getR dX10_tried_47 fgX10_70 mm0 rfl ?_
      refine xi_bipush (v := 65) dX10_tried_50 (by decide) ?_
      refine xi_iload_n dX10_tried_52 rfl ?_
      refine xe_imul dX10_tried_53 (v := nI (65 * k)) (pk_mul 65 k) ?_
      refine xi_iload dX10_tried_54 rfl ?_
      refine xe_iadd dX10_tried_56 (v := nI (65 * k + f)) (nI_add (65 * k) f) ?_
      refine xi_aload_n dX10_tried_57 rfl ?_
      refine xi_getR dX10_tried_58 fgX10_70 mm0 rfl ?_
      refine xi_bipush (v := 65) dX10_tried_61 (by decide) ?_
      refine xi_iload_n dX10_tried_63 rfl ?_
      refine xe_imul dX10_tried_64 (v := nI (65 * k)) (pk_mul 65 k) ?_
      refine xat 65 rfl ?_
      refine xi_iload dX10_tried_65 rfl ?_
      refine xe_iadd dX10_tried_67 (v := nI (65 * k + f)) (nI_add (65 * k) f) ?_
      refine xe_lald (v := nJ (T f)) (65 * k + f) dX10_tried_68 mm15 (by decide) rfl (by omega) ((hR f (by omega)).trans (by rw [if_neg (by omega)])) ?_
      refine xi_ldc2 (v := 1048576) dX10_tried_69 kcX10_113 ?_
      refine xtopj (y := nJ 1048576) rfl ?_
      refine xi_lload_n dX10_tried_72 rfl ?_
      refine xi_lsub dX10_tried_73 ?_
      refine xtopj (y := nJ (1048576 - c)) (nJ_sub hc) ?_
      refine xi_lmul dX10_tried_74 ?_
      refine xtopj (y := nJ ((T f) * (1048576 - c))) (nJ_mul _ _) ?_
      refine xi_lload dX10_tried_75 rfl ?_
      refine xi_lload_n dX10_tried_77 rfl ?_
      refine xi_lmul dX10_tried_78 ?_
      refine xtopj (y := nJ ((T (f - 1)) * c)) (nJ_mul _ _) ?_
      refine xi_ladd dX10_tried_79 ?_
      refine xtopj (y := nJ (((T f) * (1048576 - c)) + ((T (f - 1)) * c))) (nJ_add _ _) ?_
      refine xi_ldc2 (v := 1048576) dX10_tried_80 kcX10_113 ?_
      refine xtopj (y := nJ 1048576) rfl ?_
      have e1 : mspr T c f = (T f * (1048576 - c) + (T (f - 1)) * c) / 1048576 := by unfold mspr; rw [if_neg h23]
      rw [if_neg h23] at n1
      refine xat 83 rfl ?_
      refine xi_ldiv dX10_tried_83 (by decide) ?_
      refine xtopj (y := nJ (mspr T c f)) ((nJ_div (by omega)).trans (congrArg nJ e1.symm)) ?_
      refine xe_last (65 * k + f) dX10_tried_84 mm15 (by decide) rfl (by omega) ?_
      refine xi_iinc (v := xp f) (lv' := [some (.ref 0), some (.int (nI k)), some (.long (nJ c)), none, some (.int (xb b)), some (.int (xp f)), some (.long (nJ (T (f - 1)))), none]) dX10_tried_85 rfl (xp_dec f) (by decide) rfl ?_
      refine xi_goto 16 dX10_tried_88 (by decide) ?_
      refine xi_drop [true, true, true, false, true, true, false, false] rfl ?_
      refine ih _ (by omega) (fun i hi => ?_) (fun M99 f99 e99 h99 => h M99 ((FQ.xj (by omega)).tr f99) e99 h99)
      rw [xj_s]
      by_cases q : i = f
      · subst q; rw [updL_s, if_pos (by omega)]
      · rw [updL_n (by omega), hR i hi]; congr 1; split <;> split <;> first | rfl | omega
    · skip
      refine xi_lconst (v := 0) dX10_tried_26 rfl ?_
      refine xtopj (y := nJ 0) rfl ?_
      refine xi_goto 44 dX10_tried_27 (by decide) ?_
      refine xi_lstore (lv' := [some (.ref 0), some (.int (nI k)), some (.long (nJ c)), none, some (.int (xb b)), some (.int (nI f)), some (.long (nJ 0)), none]) dX10_tried_44 (by decide) rfl ?_
      refine xi_aload_n dX10_tried_46 rfl ?_
      refine xi_getR dX10_tried_47 fgX10_70 mm0 rfl ?_
      refine xi_bipush (v := 65) dX10_tried_50 (by decide) ?_
      refine xi_iload_n dX10_tried_52 rfl ?_
      refine xe_imul dX10_tried_53 (v := nI (65 * k)) (pk_mul 65 k) ?_
      refine xi_iload dX10_tried_54 rfl ?_
      refine xe_iadd dX10_tried_56 (v := nI (65 * k + f)) (nI_add (65 * k) f) ?_
      refine xi_aload_n dX10_tried_57 rfl ?_
      refine xi_getR dX10_tried_58 fgX10_70 mm0 rfl ?_
      refine xi_bipush (v := 65) dX10_tried_61 (by decide) ?_
      refine xat 63 rfl ?_
      refine xi_iload_n dX10_tried_63 rfl ?_
      refine xe_imul dX10_tried_64 (v := nI (65 * k)) (pk_mul 65 k) ?_
      refine xi_iload dX10_tried_65 rfl ?_
      refine xe_iadd dX10_tried_67 (v := nI (65 * k + f)) (nI_add (65 * k) f) ?_
      refine xe_lald (v := nJ (T f)) (65 * k + f) dX10_tried_68 mm15 (by decide) rfl (by omega) ((hR f (by omega)).trans (by rw [if_neg (by omega)])) ?_
      refine xi_ldc2 (v := 1048576) dX10_tried_69 kcX10_113 ?_
      refine xtopj (y := nJ 1048576) rfl ?_
      refine xi_lload_n dX10_tried_72 rfl ?_
      refine xi_lsub dX10_tried_73 ?_
      refine xtopj (y := nJ (1048576 - c)) (nJ_sub hc) ?_
      refine xi_lmul dX10_tried_74 ?_
      refine xtopj (y := nJ ((T f) * (1048576 - c))) (nJ_mul _ _) ?_
      refine xi_lload dX10_tried_75 rfl ?_
      refine xi_lload_n dX10_tried_77 rfl ?_
      refine xi_lmul dX10_tried_78 ?_
      refine xtopj (y := nJ (0 * c)) (nJ_mul _ _) ?_
      refine xat 79 rfl ?_
      refine xi_ladd dX10_tried_79 ?_
      refine xtopj (y := nJ (((T f) * (1048576 - c)) + (0 * c))) (nJ_add _ _) ?_
      refine xi_ldc2 (v := 1048576) dX10_tried_80 kcX10_113 ?_
      refine xtopj (y := nJ 1048576) rfl ?_
      have e1 : mspr T c f = (T f * (1048576 - c) + 0 * c) / 1048576 := by unfold mspr; rw [if_pos h23]
      rw [if_pos h23] at n1
      refine xi_ldiv dX10_tried_83 (by decide) ?_
      refine xtopj (y := nJ (mspr T c f)) ((nJ_div (by omega)).trans (congrArg nJ e1.symm)) ?_
      refine xe_last (65 * k + f) dX10_tried_84 mm15 (by decide) rfl (by omega) ?_
      refine xi_iinc (v := xp f) (lv' := [some (.ref 0), some (.int (nI k)), some (.long (nJ c)), none, some (.int (xb b)), some (.int (xp f)), some (.long (nJ 0)), none]) dX10_tried_85 rfl (xp_dec f) (by decide) rfl ?_
      refine xi_goto 16 dX10_tried_88 (by decide) ?_
      refine xi_drop [true, true, true, false, true, true, false, false] rfl ?_
      refine ih _ (by omega) (fun i hi => ?_) (fun M99 f99 e99 h99 => h M99 ((FQ.xj (by omega)).tr f99) e99 h99)
      rw [xj_s]
      by_cases q : i = f
      · subst q; rw [updL_s, if_pos (by omega)]
      · rw [updL_n (by omega), hR i hi]; congr 1; split <;> split <;> first | rfl | omega

set_option maxHeartbeats 4000000 in
set_option maxRecDepth 100000 in
theorem nl_tried91 {M : xM} {Q : Option Value → xM → Prop} {o : xO} {c k risk now : Nat} {b : Bool} (hk : k < 8) (hw : wO o) (hc : c ≤ 1048576) (hn : on o < 64) (hrb : risk ≤ 1048576) (hnb : now ≤ 500) (hri : M.1 0 12 = nI risk) (hno : M.1 0 10 = nI now) (hO : (M.2.1 12 k = nI (on o) ∧ M.2.1 12 k = nI (on o) ∧ M.2.1 13 k = nI (os o) ∧ M.2.1 14 k = nI (om o))) (hR : ∀ i, i < 65 → M.2.2 15 (65 * k + i) = nJ (mspr (oT o) c i)) (h : ∀ M2, FQ k M M2 → MO (madd o c b risk now) M2 k → Q none M2) : WP shM mX10_tried 91 [some (.ref 0), some (.int (nI k)), some (.long (nJ c)), none, some (.int (xb b)), some (.int (-1)), none, none] [] M Q := by
  have hT := hw.2.2.2.1
  have hT2 : ∀ k, mspr (oT o) c k ≤ 1048576 := fun k => mspr_le hT hc
  have w1 := hw.1
  have w2 := hw.2.1
  have w3 := hw.2.2.1
  refine xi_aload_n dX10_tried_91 rfl ?_
  refine xi_getR dX10_tried_92 fgX10_61 mm0 rfl ?_
  refine xi_iload_n dX10_tried_95 rfl ?_
  refine xi_dup2 dX10_tried_96 rfl rfl ?_
  refine xe_iald (v := nI (on o)) k dX10_tried_97 mm12 (by decide) rfl (by omega) hO.2.1 ?_
  refine xi_iconst (v := 1) dX10_tried_98 rfl ?_
  refine xe_iadd dX10_tried_99 (v := nI (on o + 1)) (nI_add (on o) 1) ?_
  refine xe_iast k dX10_tried_100 mm12 (by decide) rfl (by omega) ?_
  generalize eM1 : (xa M 12 (upd (M.2.1 12) k (nI (on o + 1)))) = M1
  have f1 : M1.2.1 12 k = nI (on o + 1) := by rw [← eM1, xa_s, upd_s]
  have F1 : FQ k M M1 := by rw [← eM1]; exact FQ.xa (Or.inl rfl)
  have f2 : M1.2.1 13 k = nI (os o) := by rw [← eM1, xa_n (by decide)]; exact hO.2.2.1
  have f3 : M1.2.1 14 k = nI (om o) := by rw [← eM1, xa_n (by decide)]; exact hO.2.2.2
  have fR : ∀ i, i < 65 → M1.2.2 15 (65 * k + i) = nJ (mspr (oT o) c i) := by rw [← eM1]; exact hR
  refine xi_aload_n dX10_tried_101 rfl ?_
  refine xi_getR dX10_tried_102 fgX10_64 mm0 rfl ?_
  refine xi_iload_n dX10_tried_105 rfl ?_
  refine xat 106 rfl ?_
  refine xi_dup2 dX10_tried_106 rfl rfl ?_
  refine xe_iald (v := nI (os o)) k dX10_tried_107 mm13 (by decide) rfl (by omega) f2 ?_
  refine xi_iload dX10_tried_108 rfl ?_
  refine xb_if_eq b 117 dX10_tried_110 (by decide) rfl (fun h110 => ?_) (fun h110 => ?_)
  · skip
    refine xi_iconst (v := 0) dX10_tried_117 rfl ?_
    refine xe_iadd dX10_tried_118 (v := nI (os o + 0)) (nI_add (os o) 0) ?_
    refine xe_iast k dX10_tried_119 mm13 (by decide) rfl (by omega) ?_
    generalize eM2 : (xa M1 13 (upd (M1.2.1 13) k (nI (os o + 0)))) = M2
    have eb : os o + (if b = true then 1 else 0) = os o + 0 := by rw [h110]; rfl
    have g2 : M2.2.1 13 k = nI (os o + (if b = true then 1 else 0)) := by rw [eb, ← eM2, xa_s, upd_s]
    have F2 : FQ k M M2 := by rw [← eM2]; exact F1.tr (FQ.xa (Or.inr (Or.inl rfl)))
    have g1 : M2.2.1 12 k = nI (on o + 1) := by rw [← eM2, xa_n (by decide)]; exact f1
    have g3 : M2.2.1 14 k = nI (om o) := by rw [← eM2, xa_n (by decide)]; exact f3
    have gR : ∀ i, i < 65 → M2.2.2 15 (65 * k + i) = nJ (mspr (oT o) c i) := by rw [← eM2]; exact fR
    refine xi_aload_n dX10_tried_120 rfl ?_
    refine xi_getR dX10_tried_121 fgX10_67 mm0 rfl ?_
    refine xi_iload_n dX10_tried_124 rfl ?_
    refine xe_iald (v := nI (om o)) k dX10_tried_125 mm14 (by decide) rfl (by omega) g3 ?_
    refine xn_if_ne (om o) 155 dX10_tried_126 (by decide) rfl (by omega) (fun h126 => ?_) (fun h126 => ?_)
    · skip
      refine xi_vret dX10_tried_155 rfl ?_
      have e : madd o c b risk now = (on o + 1, os o + (if b = true then 1 else 0), om o, mspr (oT o) c) := by
        rw [madd, if_pos (by omega), if_neg (c := om o = 0 ∧ mtail (mspr (oT o) c) (os o + (if b = true then 1 else 0)) ≤ risk) (fun q => by have := q.1; have := q.2; omega)]
      rw [e] at h
      exact h M2 F2 ⟨gR, g1, g2, g3⟩
    · skip
      refine xi_aload_n dX10_tried_129 rfl ?_
      refine xi_iload_n dX10_tried_130 rfl ?_
      refine xi_callV [.int (nI k)] [] dX10_tried_131 zX10_tailOf mlX10_253 mm0 rfl rfl rfl rfl rfl (Nat.le_of_ble_eq_true rfl) (Nat.le_of_ble_eq_true rfl) ⟨by decide, by decide⟩ ?_
      refine n_tail hk gR (s := os o + (if b = true then 1 else 0)) (by have := hw.2.1; split <;> omega) g2 ?_
      have tb := mtail_le (s := os o + (if b = true then 1 else 0)) hT2
      show WP _ _ 134 _ [.long (nJ (mtail (mspr (oT o) c) (os o + (if b = true then 1 else 0))))] _ _
      refine xi_aload_n dX10_tried_134 rfl ?_
      refine xe_getI (v := nI risk) dX10_tried_135 fgX10_35 mm0 rfl (by rw [F2.1]; exact hri) ?_
      refine xi_i2l dX10_tried_138 ?_
      refine xtopj (y := nJ risk) (nJ_i2l (by omega)) ?_
      refine xi_lcmp dX10_tried_139 ?_
      refine xi_if_gt 155 dX10_tried_140 (by decide) (fun h140 => ?_) (fun h140 => ?_)
      · skip
        refine xi_vret dX10_tried_155 rfl ?_
        have z := (lg_cmp_gt _ _).mp h140
        rw [nJ_lt (by omega) (by omega)] at z
        have e : madd o c b risk now = (on o + 1, os o + (if b = true then 1 else 0), om o, mspr (oT o) c) := by
          rw [madd, if_pos (by omega), if_neg (c := om o = 0 ∧ mtail (mspr (oT o) c) (os o + (if b = true then 1 else 0)) ≤ risk) (fun q => by have := q.1; have := q.2; omega)]
        rw [e] at h
        exact h M2 F2 ⟨gR, g1, g2, g3⟩
      · skip
        refine xi_aload_n dX10_tried_143 rfl ?_
        refine xi_getR dX10_tried_144 fgX10_67 mm0 rfl ?_
        refine xi_iload_n dX10_tried_147 rfl ?_
        refine xi_aload_n dX10_tried_148 rfl ?_
        refine xe_getI (v := nI now) dX10_tried_149 fgX10_110 mm0 rfl (by rw [F2.1]; exact hno) ?_
        refine xi_iconst (v := 1) dX10_tried_152 rfl ?_
        refine xe_iadd dX10_tried_153 (v := nI (now + 1)) (nI_add now 1) ?_
        refine xe_iast k dX10_tried_154 mm14 (by decide) rfl (by omega) ?_
        refine xi_vret dX10_tried_155 rfl ?_
        have z := mt (lg_cmp_gt _ _).mpr h140
        rw [nJ_lt (by omega) (by omega)] at z
        have e : madd o c b risk now = (on o + 1, os o + (if b = true then 1 else 0), now + 1, mspr (oT o) c) := by
          rw [madd, if_pos (by omega), if_pos (c := om o = 0 ∧ mtail (mspr (oT o) c) (os o + (if b = true then 1 else 0)) ≤ risk) ⟨h126, by omega⟩]
        rw [e] at h
        exact h _ (F2.tr (FQ.xa (Or.inr (Or.inr rfl)))) ⟨gR, by rw [xa_n (by decide)]; exact g1, by rw [xa_n (by decide)]; exact g2, by rw [xa_s, upd_s]; rfl⟩
  · skip
    refine xi_iconst (v := 1) dX10_tried_113 rfl ?_
    refine xi_goto 118 dX10_tried_114 (by decide) ?_
    refine xe_iadd dX10_tried_118 (v := nI (os o + 1)) (nI_add (os o) 1) ?_
    refine xe_iast k dX10_tried_119 mm13 (by decide) rfl (by omega) ?_
    generalize eM2 : (xa M1 13 (upd (M1.2.1 13) k (nI (os o + 1)))) = M2
    have eb : os o + (if b = true then 1 else 0) = os o + 1 := by rw [h110]; rfl
    have g2 : M2.2.1 13 k = nI (os o + (if b = true then 1 else 0)) := by rw [eb, ← eM2, xa_s, upd_s]
    have F2 : FQ k M M2 := by rw [← eM2]; exact F1.tr (FQ.xa (Or.inr (Or.inl rfl)))
    have g1 : M2.2.1 12 k = nI (on o + 1) := by rw [← eM2, xa_n (by decide)]; exact f1
    have g3 : M2.2.1 14 k = nI (om o) := by rw [← eM2, xa_n (by decide)]; exact f3
    have gR : ∀ i, i < 65 → M2.2.2 15 (65 * k + i) = nJ (mspr (oT o) c i) := by rw [← eM2]; exact fR
    refine xi_aload_n dX10_tried_120 rfl ?_
    refine xi_getR dX10_tried_121 fgX10_67 mm0 rfl ?_
    refine xi_iload_n dX10_tried_124 rfl ?_
    refine xe_iald (v := nI (om o)) k dX10_tried_125 mm14 (by decide) rfl (by omega) g3 ?_
    refine xn_if_ne (om o) 155 dX10_tried_126 (by decide) rfl (by omega) (fun h126 => ?_) (fun h126 => ?_)
    · skip
      refine xi_vret dX10_tried_155 rfl ?_
      have e : madd o c b risk now = (on o + 1, os o + (if b = true then 1 else 0), om o, mspr (oT o) c) := by
        rw [madd, if_pos (by omega), if_neg (c := om o = 0 ∧ mtail (mspr (oT o) c) (os o + (if b = true then 1 else 0)) ≤ risk) (fun q => by have := q.1; have := q.2; omega)]
      rw [e] at h
      exact h M2 F2 ⟨gR, g1, g2, g3⟩
    · skip
      refine xi_aload_n dX10_tried_129 rfl ?_
      refine xi_iload_n dX10_tried_130 rfl ?_
      refine xi_callV [.int (nI k)] [] dX10_tried_131 zX10_tailOf mlX10_253 mm0 rfl rfl rfl rfl rfl (Nat.le_of_ble_eq_true rfl) (Nat.le_of_ble_eq_true rfl) ⟨by decide, by decide⟩ ?_
      refine n_tail hk gR (s := os o + (if b = true then 1 else 0)) (by have := hw.2.1; split <;> omega) g2 ?_
      have tb := mtail_le (s := os o + (if b = true then 1 else 0)) hT2
      show WP _ _ 134 _ [.long (nJ (mtail (mspr (oT o) c) (os o + (if b = true then 1 else 0))))] _ _
      refine xi_aload_n dX10_tried_134 rfl ?_
      refine xe_getI (v := nI risk) dX10_tried_135 fgX10_35 mm0 rfl (by rw [F2.1]; exact hri) ?_
      refine xi_i2l dX10_tried_138 ?_
      refine xtopj (y := nJ risk) (nJ_i2l (by omega)) ?_
      refine xi_lcmp dX10_tried_139 ?_
      refine xi_if_gt 155 dX10_tried_140 (by decide) (fun h140 => ?_) (fun h140 => ?_)
      · skip
        refine xi_vret dX10_tried_155 rfl ?_
        have z := (lg_cmp_gt _ _).mp h140
        rw [nJ_lt (by omega) (by omega)] at z
        have e : madd o c b risk now = (on o + 1, os o + (if b = true then 1 else 0), om o, mspr (oT o) c) := by
          rw [madd, if_pos (by omega), if_neg (c := om o = 0 ∧ mtail (mspr (oT o) c) (os o + (if b = true then 1 else 0)) ≤ risk) (fun q => by have := q.1; have := q.2; omega)]
        rw [e] at h
        exact h M2 F2 ⟨gR, g1, g2, g3⟩
      · skip
        refine xi_aload_n dX10_tried_143 rfl ?_
        refine xi_getR dX10_tried_144 fgX10_67 mm0 rfl ?_
        refine xi_iload_n dX10_tried_147 rfl ?_
        refine xi_aload_n dX10_tried_148 rfl ?_
        refine xe_getI (v := nI now) dX10_tried_149 fgX10_110 mm0 rfl (by rw [F2.1]; exact hno) ?_
        refine xi_iconst (v := 1) dX10_tried_152 rfl ?_
        refine xe_iadd dX10_tried_153 (v := nI (now + 1)) (nI_add now 1) ?_
        refine xe_iast k dX10_tried_154 mm14 (by decide) rfl (by omega) ?_
        refine xi_vret dX10_tried_155 rfl ?_
        have z := mt (lg_cmp_gt _ _).mpr h140
        rw [nJ_lt (by omega) (by omega)] at z
        have e : madd o c b risk now = (on o + 1, os o + (if b = true then 1 else 0), now + 1, mspr (oT o) c) := by
          rw [madd, if_pos (by omega), if_pos (c := om o = 0 ∧ mtail (mspr (oT o) c) (os o + (if b = true then 1 else 0)) ≤ risk) ⟨h126, by omega⟩]
        rw [e] at h
        exact h _ (F2.tr (FQ.xa (Or.inr (Or.inr rfl)))) ⟨gR, by rw [xa_n (by decide)]; exact g1, by rw [xa_n (by decide)]; exact g2, by rw [xa_s, upd_s]; rfl⟩

set_option maxHeartbeats 4000000 in
set_option maxRecDepth 100000 in
theorem n_tried {M : xM} {Q : Option Value → xM → Prop} {o : xO} {c k risk now : Nat} {b : Bool} (hk : k < 8) (hO : MO o M k) (hw : wO o) (hc : c ≤ 1048576) (hrb : risk ≤ 1048576) (hnb : now ≤ 500) (hri : M.1 0 12 = nI risk) (hno : M.1 0 10 = nI now) (h : ∀ M2, FQ k M M2 → MO (madd o c b risk now) M2 k → Q none M2) : WP shM mX10_tried 0 [some (.ref 0), some (.int (nI k)), some (.long (nJ c)), none, some (.int (xb b)), none, none, none] [] M Q := by
  have hT := hw.2.2.2.1
  have hT2 : ∀ k, mspr (oT o) c k ≤ 1048576 := fun k => mspr_le hT hc
  have w1 := hw.1
  have w2 := hw.2.1
  have w3 := hw.2.2.1
  refine xi_aload_n dX10_tried_0 rfl ?_
  refine xi_getR dX10_tried_1 fgX10_61 mm0 rfl ?_
  refine xi_iload_n dX10_tried_4 rfl ?_
  refine xe_iald (v := nI (on o)) k dX10_tried_5 mm12 (by decide) rfl (by omega) hO.2.1 ?_
  refine xi_bipush (v := 64) dX10_tried_6 (by decide) ?_
  refine xn_icmp_ne (on o) 64 12 dX10_tried_8 (by decide) rfl rfl (by omega) (by omega) (fun h8 => ?_) (fun h8 => ?_)
  · skip
    refine xi_bipush (v := 64) dX10_tried_12 (by decide) ?_
    refine xi_istore (lv' := [some (.ref 0), some (.int (nI k)), some (.long (nJ c)), none, some (.int (xb b)), some (.int 64), none, none]) dX10_tried_14 (by decide) rfl ?_
    refine nl_tried hk hT hc 65 M (by omega) (fun i hi => by rw [hO.1 i hi, if_neg (by omega)]) (fun M1 f1 e1 r1 => ?_)
    exact nl_tried91 hk hw hc (by omega) hrb hnb (by rw [f1.1]; exact hri) (by rw [f1.1]; exact hno) (by rw [e1]; exact ⟨hO.2.1, hO.2.1, hO.2.2.1, hO.2.2.2⟩) r1 (fun M2 f2 h2 => h M2 (f1.tr f2) h2)
  · skip
    refine xi_vret dX10_tried_11 rfl ?_
    have e : madd o c b risk now = o := if_neg (by omega)
    rw [e] at h
    exact h M FQ.rf hO

