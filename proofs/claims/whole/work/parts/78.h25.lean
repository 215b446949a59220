def AR (a b p : Nat) (M : xM) : Prop := (∀ n, n < 16 → M.2.1 232 n = if n < p then nI (c0 a b n) else -1) ∧ ∀ n, n < 16 → M.2.1 233 n = nI (if n < p then 5 else 0)
set_option maxHeartbeats 4000000 in
set_option maxRecDepth 100000 in
theorem sl_arr {a b P : Nat} {Q : Option Value → xM → Prop} (ha : 3 ≤ a) (ha2 : a ≤ 10) (hb : 3 ≤ b) (hb2 : b ≤ 10) (hP : 1 ≤ P) (hP2 : P ≤ 4) : ∀ (f p : Nat) (M : xM), p + f = P → CG (g0 a b P) M → AR a b p M → (∀ M2, (M2.1 = M.1 ∧ M2.2.2 = M.2.2 ∧ ∀ x, ¬ x = 232 → ¬ x = 233 → M2.2.1 x = M.2.1 x) → AR a b P M2 → Q none M2) → WP shC mX6_arrange 74 [some (.ref 231), some (.int (nI p))] [] M Q := by
  have hW := wG_0 ha ha2 hb hb2 hP hP2
  intro f
  induction f with
  | zero =>
    intro p M hf hG hI h
    obtain rfl : P = p := by omega
    refine xi_iload_n dX6_arrange_74 rfl ?_
    refine xi_aload_n dX6_arrange_75 rfl ?_
    refine xi_getR dX6_arrange_76 fgX6_39 (so isSt_first) rfl ?_
    refine xe_getI (v := nI P) dX6_arrange_79 fgX6_49 cc1 rfl (cg_P hG) ?_
    refine xn_icmp_ge P P 105 dX6_arrange_82 (by decide) rfl rfl (by omega) (by omega) (fun h82 => ?_) (fun z => absurd z (by omega))
    refine xi_vret dX6_arrange_105 rfl ?_
    exact h M ⟨rfl, rfl, fun _ _ _ => rfl⟩ hI
  | succ f ih =>
    intro p M hf hG hI h
    refine xi_iload_n dX6_arrange_74 rfl ?_
    refine xi_aload_n dX6_arrange_75 rfl ?_
    refine xi_getR dX6_arrange_76 fgX6_39 (so isSt_first) rfl ?_
    refine xe_getI (v := nI P) dX6_arrange_79 fgX6_49 cc1 rfl (cg_P hG) ?_
    refine xn_icmp_ge p P 105 dX6_arrange_82 (by decide) rfl rfl (by omega) (by omega) (fun z => absurd z (by omega)) (fun h82 => ?_)
    refine xi_aload_n dX6_arrange_85 rfl ?_
    refine xi_iload_n dX6_arrange_86 rfl ?_
    refine xi_iconst (v := 0) dX6_arrange_87 rfl ?_
    refine xi_aload_n dX6_arrange_88 rfl ?_
    refine xi_getR dX6_arrange_89 fgX6_39 (so isSt_first) rfl ?_
    refine xi_iload_n dX6_arrange_92 rfl ?_
    refine xat 93 rfl ?_
    refine xi_callV [.int (nI p)] [.int 0, .int (nI p), .ref 231] dX6_arrange_93 zX1_firstCellOf mlX6_55 cc1 rfl rfl rfl rfl rfl (Nat.le_of_ble_eq_true rfl) (Nat.le_of_ble_eq_true rfl) ⟨by decide, by decide⟩ ?_
    refine g_first hW hG (p := p) (by omega) ?_
    show WP _ _ 96 _ [.int (nI (c0 a b p)), .int 0, .int (nI p), .ref 231] _ _
    refine xi_callV [.int (nI p), .int 0, .int (nI (c0 a b p))] [] dX6_arrange_96 zX6_putNew mlX6_59 (so isSt_first) rfl rfl rfl rfl rfl (Nat.le_of_ble_eq_true rfl) (Nat.le_of_ble_eq_true rfl) ⟨by decide, by decide⟩ ?_
    refine s_putNew isSt_first (n := p) (q := 0) (c := nI (c0 a b p)) (by omega) (by omega) ?_
    show WP _ _ 99 _ [] _ _
    refine xi_iinc (v := nI (p + 1)) (lv' := [some (.ref 231), some (.int (nI (p + 1)))]) dX6_arrange_99 rfl (xinc p) (by decide) rfl ?_
    refine xi_goto 74 dX6_arrange_102 (by decide) ?_
    generalize eM1 : (xa (xa M 232 (upd (M.2.1 232) p (nI (c0 a b p)))) 233 (upd ((xa M 232 (upd (M.2.1 232) p (nI (c0 a b p)))).2.1 233) p (nI (mlife 0)))) = M1
    have F1 : (M1.1 = M.1 ∧ M1.2.2 = M.2.2 ∧ ∀ x, ¬ x = 232 → ¬ x = 233 → M1.2.1 x = M.2.1 x) := by rw [← eM1]; exact ⟨rfl, rfl, fun x x1 x2 => by rw [xa_n x2, xa_n x1]⟩
    have I1 : AR a b (p + 1) M1 := by
      rw [← eM1]
      refine ⟨fun n hn => ?_, fun n hn => ?_⟩
      · rw [xa_n (by decide), xa_s]
        by_cases e : n = p
        · rw [e, upd_s, if_pos (by omega)]
        · rw [upd_n e, hI.1 n hn]; split <;> split <;> first | rfl | omega
      · rw [xa_s, xa_n (by decide)]
        by_cases e : n = p
        · rw [e, upd_s, if_pos (by omega)]; rfl
        · rw [upd_n e, hI.2 n hn]; split <;> split <;> first | rfl | omega
    refine ih (p + 1) M1 (by omega) (hG.keep (by rw [F1.1]) (fun a ha => F1.2.2 a (by omega) (by omega))) I1 (fun M2 F2 z => h M2 ⟨F2.1.trans F1.1, F2.2.1.trans F1.2.1, fun x x1 x2 => (F2.2.2 x x1 x2).trans (F1.2.2 x x1 x2)⟩ z)

set_option maxHeartbeats 4000000 in
set_option maxRecDepth 100000 in
theorem s_arrange {M : xM} {a b P : Nat} {Q : Option Value → xM → Prop} (ha : 3 ≤ a) (ha2 : a ≤ 10) (hb : 3 ≤ b) (hb2 : b ≤ 10) (hP : 1 ≤ P) (hP2 : P ≤ 4) (hG : CG (g0 a b P) M) (h : ∀ M2, (∀ x, (x < 232 ∨ 240 < x) → M2.1 x = M.1 x ∧ M2.2.1 x = M.2.1 x ∧ M2.2.2 x = M.2.2 x) → KF (g0 a b P) (s0 a b P) M2 → Q none M2) : WP shC mX6_arrange 0 [some (.ref 231), none] [] M Q := by
  refine xi_aload_n dX6_arrange_0 rfl ?_
  refine xi_getR dX6_arrange_1 fgX6_9 (so isSt_first) rfl ?_
  refine xi_iconst (v := (-1)) dX6_arrange_4 rfl ?_
  refine xi_callS [.ref (231 + 1), .int (-1)] [] dX6_arrange_5 zJ7_fill_53178 mlX6_43 rfl rfl rfl (Nat.le_of_ble_eq_true rfl) (Nat.le_of_ble_eq_true rfl) ⟨by decide, by decide⟩ ?_
  refine j_fillI (v := (-1)) rfl (by decide) (fun M1 F1 z1 => ?_)
  show WP _ _ 8 _ [] _ _
  refine xi_aload_n dX6_arrange_8 rfl ?_
  refine xi_getR dX6_arrange_9 fgX6_15 (so isSt_first) rfl ?_
  refine xi_iconst (v := 0) dX6_arrange_12 rfl ?_
  refine xi_callS [.ref (231 + 2), .int 0] [] dX6_arrange_13 zJ7_fill_53178 mlX6_43 rfl rfl rfl (Nat.le_of_ble_eq_true rfl) (Nat.le_of_ble_eq_true rfl) ⟨by decide, by decide⟩ ?_
  refine j_fillI (v := 0) rfl (by decide) (fun M2 F2 z2 => ?_)
  show WP _ _ 16 _ [] _ _
  refine xi_aload_n dX6_arrange_16 rfl ?_
  refine xi_getR dX6_arrange_17 fgX6_18 (so isSt_first) rfl ?_
  refine xi_iconst (v := (-1)) dX6_arrange_20 rfl ?_
  refine xi_callS [.ref (231 + 3), .int (-1)] [] dX6_arrange_21 zJ7_fill_53178 mlX6_43 rfl rfl rfl (Nat.le_of_ble_eq_true rfl) (Nat.le_of_ble_eq_true rfl) ⟨by decide, by decide⟩ ?_
  refine j_fillI (v := (-1)) rfl (by decide) (fun M3 F3 z3 => ?_)
  show WP _ _ 24 _ [] _ _
  refine xi_aload_n dX6_arrange_24 rfl ?_
  refine xi_getR dX6_arrange_25 fgX6_21 (so isSt_first) rfl ?_
  refine xi_iconst (v := 1) dX6_arrange_28 rfl ?_
  refine xi_callS [.ref (231 + 4), .int 1] [] dX6_arrange_29 zJ7_fill_53178 mlX6_43 rfl rfl rfl (Nat.le_of_ble_eq_true rfl) (Nat.le_of_ble_eq_true rfl) ⟨by decide, by decide⟩ ?_
  refine j_fillI (v := 1) rfl (by decide) (fun M4 F4 z4 => ?_)
  show WP _ _ 32 _ [] _ _
  refine xi_aload_n dX6_arrange_32 rfl ?_
  refine xi_getR dX6_arrange_33 fgX6_24 (so isSt_first) rfl ?_
  refine xi_iconst (v := 0) dX6_arrange_36 rfl ?_
  refine xi_callS [.ref (231 + 5), .int 0] [] dX6_arrange_37 zJ7_fill_53178 mlX6_43 rfl rfl rfl (Nat.le_of_ble_eq_true rfl) (Nat.le_of_ble_eq_true rfl) ⟨by decide, by decide⟩ ?_
  refine j_fillI (v := 0) rfl (by decide) (fun M5 F5 z5 => ?_)
  show WP _ _ 40 _ [] _ _
  refine xi_aload_n dX6_arrange_40 rfl ?_
  refine xi_getR dX6_arrange_41 fgX6_27 (so isSt_first) rfl ?_
  refine xi_iconst (v := (-1)) dX6_arrange_44 rfl ?_
  refine xi_callS [.ref (231 + 6), .int (-1)] [] dX6_arrange_45 zJ7_fill_53178 mlX6_43 rfl rfl rfl (Nat.le_of_ble_eq_true rfl) (Nat.le_of_ble_eq_true rfl) ⟨by decide, by decide⟩ ?_
  refine j_fillI (v := (-1)) rfl (by decide) (fun M6 F6 z6 => ?_)
  show WP _ _ 48 _ [] _ _
  refine xi_aload_n dX6_arrange_48 rfl ?_
  refine xi_getR dX6_arrange_49 fgX6_30 (so isSt_first) rfl ?_
  refine xi_iconst (v := 0) dX6_arrange_52 rfl ?_
  refine xi_callS [.ref (231 + 7), .int 0] [] dX6_arrange_53 zJ7_fill_53178 mlX6_43 rfl rfl rfl (Nat.le_of_ble_eq_true rfl) (Nat.le_of_ble_eq_true rfl) ⟨by decide, by decide⟩ ?_
  refine j_fillI (v := 0) rfl (by decide) (fun M7 F7 z7 => ?_)
  show WP _ _ 56 _ [] _ _
  refine xi_aload_n dX6_arrange_56 rfl ?_
  refine xi_getR dX6_arrange_57 fgX6_33 (so isSt_first) rfl ?_
  refine xi_iconst (v := 0) dX6_arrange_60 rfl ?_
  refine xi_callS [.ref (231 + 8), .int 0] [] dX6_arrange_61 zJ7_fill_53178 mlX6_43 rfl rfl rfl (Nat.le_of_ble_eq_true rfl) (Nat.le_of_ble_eq_true rfl) ⟨by decide, by decide⟩ ?_
  refine j_fillI (v := 0) rfl (by decide) (fun M8 F8 z8 => ?_)
  show WP _ _ 64 _ [] _ _
  refine xi_aload_n dX6_arrange_64 rfl ?_
  refine xi_getR dX6_arrange_65 fgX6_36 (so isSt_first) rfl ?_
  refine xi_iconst (v := 0) dX6_arrange_68 rfl ?_
  refine xi_callS [.ref (231 + 9), .int 0] [] dX6_arrange_69 zJ7_fill_53178 mlX6_43 rfl rfl rfl (Nat.le_of_ble_eq_true rfl) (Nat.le_of_ble_eq_true rfl) ⟨by decide, by decide⟩ ?_
  refine j_fillI (v := 0) rfl (by decide) (fun M9 F9 z9 => ?_)
  show WP _ _ 72 _ [] _ _
  refine xi_iconst (v := 0) dX6_arrange_72 rfl ?_
  refine xi_istore_n (lv' := [some (.ref 231), some (.int 0)]) dX6_arrange_73 (by decide) rfl ?_
  have e1 : M9.1 = M.1 := by rw [F9.1, F8.1, F7.1, F6.1, F5.1, F4.1, F3.1, F2.1, F1.1]
  have e2 : M9.2.2 = M.2.2 := by rw [F9.2.1, F8.2.1, F7.2.1, F6.2.1, F5.2.1, F4.2.1, F3.2.1, F2.2.1, F1.2.1]
  have e3 : ∀ x, (x < 232 ∨ 240 < x) → M9.2.1 x = M.2.1 x := fun x hx => by rw [F9.2.2 x (by omega), F8.2.2 x (by omega), F7.2.2 x (by omega), F6.2.2 x (by omega), F5.2.2 x (by omega), F4.2.2 x (by omega), F3.2.2 x (by omega), F2.2.2 x (by omega), F1.2.2 x (by omega)]
  have G9 : CG (g0 a b P) M9 := hG.keep (by rw [e1]) (fun x hx => e3 x (by omega))
  have v1 : ∀ n, n < 16 → M9.2.1 232 n = (-1) := fun n hn => by rw [F9.2.2 232 (by decide), F8.2.2 232 (by decide), F7.2.2 232 (by decide), F6.2.2 232 (by decide), F5.2.2 232 (by decide), F4.2.2 232 (by decide), F3.2.2 232 (by decide), F2.2.2 232 (by decide)]; exact z1 n hn
  have v2 : ∀ n, n < 16 → M9.2.1 233 n = 0 := fun n hn => by rw [F9.2.2 233 (by decide), F8.2.2 233 (by decide), F7.2.2 233 (by decide), F6.2.2 233 (by decide), F5.2.2 233 (by decide), F4.2.2 233 (by decide), F3.2.2 233 (by decide)]; exact z2 n hn
  have v3 : ∀ n, n < 16 → M9.2.1 234 n = (-1) := fun n hn => by rw [F9.2.2 234 (by decide), F8.2.2 234 (by decide), F7.2.2 234 (by decide), F6.2.2 234 (by decide), F5.2.2 234 (by decide), F4.2.2 234 (by decide)]; exact z3 n hn
  have v4 : ∀ n, n < 4 → M9.2.1 235 n = 1 := fun n hn => by rw [F9.2.2 235 (by decide), F8.2.2 235 (by decide), F7.2.2 235 (by decide), F6.2.2 235 (by decide), F5.2.2 235 (by decide)]; exact z4 n hn
  have v5 : ∀ n, n < 4 → M9.2.1 236 n = 0 := fun n hn => by rw [F9.2.2 236 (by decide), F8.2.2 236 (by decide), F7.2.2 236 (by decide), F6.2.2 236 (by decide)]; exact z5 n hn
  have v6 : ∀ n, n < 4 → M9.2.1 237 n = (-1) := fun n hn => by rw [F9.2.2 237 (by decide), F8.2.2 237 (by decide), F7.2.2 237 (by decide)]; exact z6 n hn
  have v7 : ∀ n, n < 4 → M9.2.1 238 n = 0 := fun n hn => by rw [F9.2.2 238 (by decide), F8.2.2 238 (by decide)]; exact z7 n hn
  have v8 : ∀ n, n < 4 → M9.2.1 239 n = 0 := fun n hn => by rw [F9.2.2 239 (by decide)]; exact z8 n hn
  have v9 : ∀ n, n < 8 → M9.2.1 240 n = 0 := z9
  refine sl_arr ha ha2 hb hb2 hP hP2 P 0 M9 (by omega) G9 ⟨fun n hn => by rw [if_neg (by omega)]; exact v1 n hn, fun n hn => by rw [if_neg (by omega)]; exact v2 n hn⟩ (fun M10 F10 A10 => ?_)
  have o10 : ∀ x, 233 < x → M10.2.1 x = M9.2.1 x := fun x hx => F10.2.2 x (by omega) (by omega)
  refine h M10 (fun x hx => ⟨by rw [F10.1, e1], by rw [F10.2.2 x (by omega) (by omega)]; exact e3 x hx, by rw [F10.2.1, e2]⟩) ⟨⟨fun n hn => ?_, fun n hn => ?_, fun n hn => ?_, fun n hn => ?_, fun n hn => ?_, fun n hn => ?_, fun n hn => ?_, fun n hn => ?_, fun n hn => absurd hn (Nat.not_lt_zero _)⟩, fun n hn => ?_, fun n hn => ?_⟩
  · change n < P at hn
    exact A10.1 n (by omega)
  · change n < P at hn
    exact A10.2 n (by omega)
  · change n < P at hn
    rw [o10 234 (by decide)]; exact v3 n (by omega)
  · change n < P at hn
    rw [o10 235 (by decide)]; exact v4 n (by omega)
  · change n < P at hn
    rw [o10 236 (by decide)]; exact v5 n (by omega)
  · change n < P at hn
    rw [o10 237 (by decide)]; exact v6 n (by omega)
  · change n < P at hn
    rw [o10 238 (by decide)]; exact v7 n (by omega)
  · change n < P at hn
    rw [o10 239 (by decide)]; exact v8 n (by omega)
  · rw [o10 240 (by decide)]; exact v9 n hn
  · rw [o10 234 (by decide)]; exact v3 n hn

set_option maxHeartbeats 4000000 in
set_option maxRecDepth 100000 in
theorem sl_new {a b P : Nat} {Q : Option Value → xM → Prop} : ∀ (f p : Nat) (M : xM), p + f = 4 → (∀ q, q < p → KWp w0 (fun _ => 0) q M) → (∀ M2, (∀ x, (x < 23 ∨ 42 < x) → M2.1 x = M.1 x ∧ M2.2.1 x = M.2.1 x ∧ M2.2.2 x = M.2.2 x) → (∀ q, q < 4 → KWp w0 (fun _ => 0) q M2) → WP shC mX9_startAnew 67 [some (.ref 0), some (.int (nI a)), some (.int (nI b)), some (.int (nI P)), some (.int (nI 4))] [] M2 Q) → WP shC mX9_startAnew 45 [some (.ref 0), some (.int (nI a)), some (.int (nI b)), some (.int (nI P)), some (.int (nI p))] [] M Q := by
  intro f
  induction f with
  | zero =>
    intro p M hf hI h
    refine xi_iload dX9_startAnew_45 rfl ?_
    refine xi_iconst (v := 4) dX9_startAnew_47 rfl ?_
    refine xn_icmp_ge p 4 67 dX9_startAnew_48 (by decide) rfl rfl (by omega) (by omega) (fun h48 => ?_) (fun z => absurd z (by omega))
    obtain rfl : p = 4 := by omega
    exact h M (fun _ _ => ⟨rfl, rfl, rfl⟩) hI
  | succ f ih =>
    intro p M hf hI h
    refine xi_iload dX9_startAnew_45 rfl ?_
    refine xi_iconst (v := 4) dX9_startAnew_47 rfl ?_
    refine xn_icmp_ge p 4 67 dX9_startAnew_48 (by decide) rfl rfl (by omega) (by omega) (fun z => absurd z (by omega)) (fun h48 => ?_)
    refine xi_aload_n dX9_startAnew_51 rfl ?_
    refine xi_getR dX9_startAnew_52 fgX9_53 cc0 rfl ?_
    refine xi_iload dX9_startAnew_55 rfl ?_
    refine xe_aald5 (j := (23 + 5 * p)) p dX9_startAnew_57 cc20 (by decide) rfl (by omega) (if_pos (by omega)) ?_
    refine xi_callV [] [] dX9_startAnew_58 zX7_wipe mlX9_91 (suo (isSu_p (p := p) (by omega))) rfl rfl rfl rfl rfl (Nat.le_of_ble_eq_true rfl) (Nat.le_of_ble_eq_true rfl) ⟨by decide, by decide⟩ ?_
    refine u_wipe (p := p) (by omega) (fun M1 F1 K1 => ?_)
    show WP _ _ 61 _ [] _ _
    refine xi_iinc (v := nI (p + 1)) (lv' := [some (.ref 0), some (.int (nI a)), some (.int (nI b)), some (.int (nI P)), some (.int (nI (p + 1)))]) dX9_startAnew_61 rfl (xinc p) (by decide) rfl ?_
    refine xi_goto 45 dX9_startAnew_64 (by decide) ?_
    refine ih (p + 1) M1 (by omega) (fun q hq => ?_) (fun M2 F2 z => h M2 (fun x hx => ⟨(F2 x hx).1.trans (F1 x (by omega)).1, (F2 x hx).2.1.trans (F1 x (by omega)).2.1, (F2 x hx).2.2.trans (F1 x (by omega)).2.2⟩) z)
    by_cases e : q = p
    · rw [e]; exact K1
    · exact (hI q (by omega)).sm (fun x q1 q2 => F1 x (by omega))

set_option maxHeartbeats 4000000 in
set_option maxRecDepth 100000 in
theorem c_new {M : xM} {a b P : Nat} {tp : Nat → xT} {Q : Option Value → xM → Prop} (ha : 3 ≤ a) (ha2 : a ≤ 10) (hb : 3 ≤ b) (hb2 : b ≤ 10) (hP : 1 ≤ P) (hP2 : P ≤ 4) (hT : KT tp M) (h : ∀ M2, RepC (x0 a b P tp) M2 → Q none M2) : WP shC mX9_startAnew 0 [some (.ref 0), some (.int (nI a)), some (.int (nI b)), some (.int (nI P)), none] [] M Q := by
  refine xi_aload_n dX9_startAnew_0 rfl ?_
  refine xi_getR dX9_startAnew_1 fgX9_10 cc0 rfl ?_
  refine xi_iload_n dX9_startAnew_4 rfl ?_
  refine xi_iload_n dX9_startAnew_5 rfl ?_
  refine xi_iload_n dX9_startAnew_6 rfl ?_
  refine xi_callV [.int (nI a), .int (nI b), .int (nI P)] [] dX9_startAnew_7 zX1_lay mlX9_77 cc1 rfl rfl rfl rfl rfl (Nat.le_of_ble_eq_true rfl) (Nat.le_of_ble_eq_true rfl) ⟨by decide, by decide⟩ ?_
  refine g_lay ha ha2 hb hb2 hP hP2 (fun M1 F1 G1 => ?_)
  show WP _ _ 10 _ [] _ _
  refine xi_aload_n dX9_startAnew_10 rfl ?_
  refine xi_getR dX9_startAnew_11 fgX9_21 cc0 rfl ?_
  refine xi_callV [] [] dX9_startAnew_14 zX6_arrange mlX9_80 rfl rfl rfl rfl rfl rfl (Nat.le_of_ble_eq_true rfl) (Nat.le_of_ble_eq_true rfl) ⟨by decide, by decide⟩ ?_
  refine s_arrange ha ha2 hb hb2 hP hP2 G1 (fun M2 F2 K2 => ?_)
  show WP _ _ 17 _ [] _ _
  refine xi_aload_n dX9_startAnew_17 rfl ?_
  refine xi_getR dX9_startAnew_18 fgX9_30 cc0 rfl ?_
  refine xi_aload_n dX9_startAnew_21 rfl ?_
  refine xi_getR dX9_startAnew_22 fgX9_21 cc0 rfl ?_
  refine xi_callV [.ref 231] [] dX9_startAnew_25 zX5_restart mlX9_83 cc9 rfl rfl rfl rfl rfl (Nat.le_of_ble_eq_true rfl) (Nat.le_of_ble_eq_true rfl) ⟨by decide, by decide⟩ ?_
  refine s_rs9C isSt_first (fun M3 C3 => ?_)
  show WP _ _ 28 _ [] _ _
  refine xi_aload_n dX9_startAnew_28 rfl ?_
  refine xi_getR dX9_startAnew_29 fgX9_40 cc0 rfl ?_
  refine xi_callV [] [] dX9_startAnew_32 zX3_wipe mlX9_87 cc13 rfl rfl rfl rfl rfl (Nat.le_of_ble_eq_true rfl) (Nat.le_of_ble_eq_true rfl) ⟨by decide, by decide⟩ ?_
  refine g_wipe (fun M4 a4 b4 c4 L4 => ?_)
  show WP _ _ 35 _ [] _ _
  refine xi_aload_n dX9_startAnew_35 rfl ?_
  refine xi_getR dX9_startAnew_36 fgX9_47 cc0 rfl ?_
  refine xi_callV [] [] dX9_startAnew_39 zX2_wipe mlX9_90 cc17 rfl rfl rfl rfl rfl (Nat.le_of_ble_eq_true rfl) (Nat.le_of_ble_eq_true rfl) ⟨by decide, by decide⟩ ?_
  refine e_wipe (fun M5 a5 b5 E5 => ?_)
  show WP _ _ 42 _ [] _ _
  refine xi_iconst (v := 0) dX9_startAnew_42 rfl ?_
  refine xi_istore (lv' := [some (.ref 0), some (.int (nI a)), some (.int (nI b)), some (.int (nI P)), some (.int 0)]) dX9_startAnew_43 (by decide) rfl ?_
  refine sl_new 4 0 M5 (by omega) (fun q hq => by omega) (fun M6 F6 K6 => ?_)
  refine xi_aload_n dX9_startAnew_67 rfl ?_
  refine xi_getR dX9_startAnew_68 fgX9_65 cc0 rfl ?_
  refine xi_iconst (v := 0) dX9_startAnew_71 rfl ?_
  refine xi_callS [.ref 22, .int 0] [] dX9_startAnew_72 zJ7_fill_53178 mlX9_92 rfl rfl rfl (Nat.le_of_ble_eq_true rfl) (Nat.le_of_ble_eq_true rfl) ⟨by decide, by decide⟩ ?_
  refine j_fillI (v := 0) cc22 (by decide) (fun M7 F7 z7 => ?_)
  show WP _ _ 75 _ [] _ _
  refine xi_aload_n dX9_startAnew_75 rfl ?_
  refine xi_iconst (v := 0) dX9_startAnew_76 rfl ?_
  refine xi_put dX9_startAnew_77 fpX9_98 cc0 rfl ?_
  refine xi_aload_n dX9_startAnew_80 rfl ?_
  refine xi_iconst (v := 4) dX9_startAnew_81 rfl ?_
  refine xi_put dX9_startAnew_82 fpX9_101 cc0 rfl ?_
  refine xi_aload_n dX9_startAnew_85 rfl ?_
  refine xi_sipush (v := 1048) dX9_startAnew_86 (by decide) ?_
  refine xi_put dX9_startAnew_89 fpX9_104 cc0 rfl ?_
  refine xi_aload_n dX9_startAnew_92 rfl ?_
  refine xi_iconst (v := 0) dX9_startAnew_93 rfl ?_
  refine xat 94 rfl ?_
  refine xi_put dX9_startAnew_94 fpX9_107 cc0 rfl ?_
  refine xi_aload_n dX9_startAnew_97 rfl ?_
  refine xi_iconst (v := 0) dX9_startAnew_98 rfl ?_
  refine xi_put dX9_startAnew_99 fpX9_110 cc0 rfl ?_
  refine xi_aload_n dX9_startAnew_102 rfl ?_
  refine xi_iconst (v := 0) dX9_startAnew_103 rfl ?_
  refine xi_put dX9_startAnew_104 fpX9_113 cc0 rfl ?_
  refine xi_vret dX9_startAnew_107 rfl ?_
  generalize eM8 : (xf (xf (xf (xf (xf (xf M7 0 9 0) 0 10 4) 0 11 1048) 0 12 0) 0 13 0) 0 14 0) = M8
  have o8 : ∀ x, ¬ x = 0 → M8.1 x = M7.1 x := fun x hx => by rw [← eM8, xf_o hx, xf_o hx, xf_o hx, xf_o hx, xf_o hx, xf_o hx]
  have p8 : M8.2 = M7.2 := by rw [← eM8]; rfl
  have s78 : ∀ lo hi, 0 < lo → sC2 lo hi M7 M8 := fun lo hi q x q1 q2 => ⟨o8 x (by omega), by rw [p8], by rw [p8]⟩
  have s67 : ∀ lo hi, (22 < lo ∨ hi < 22) → sC2 lo hi M6 M7 := fun lo hi q x q1 q2 => ⟨by rw [F7.1], F7.2.2 x (by omega), by rw [F7.2.1]⟩
  have s56 : ∀ lo hi, (42 < lo ∨ hi < 23) → sC2 lo hi M5 M6 := fun lo hi q x q1 q2 => F6 x (by omega)
  have s45 : ∀ lo hi, (17 < lo ∨ hi < 17) → sC2 lo hi M4 M5 := fun lo hi q x q1 q2 => ⟨a5 x (by omega), by rw [b5], by rw [b5]⟩
  have s34 : ∀ lo hi, (16 < lo ∨ hi < 14) → sC2 lo hi M3 M4 := fun lo hi q x q1 q2 => ⟨by rw [a4], c4 x (by omega) (by omega) (by omega), by rw [b4]⟩
  have s23 : ∀ lo hi, (70 < lo ∨ hi < 62) → sC2 lo hi M2 M3 := fun lo hi q => sC2.fr C3.1 (by omega)
  have s12 : ∀ lo hi, (240 < lo ∨ hi < 232) → sC2 lo hi M1 M2 := fun lo hi q x q1 q2 => F2 x (by omega)
  have s01 : ∀ lo hi, (8 < lo ∨ hi < 1) → sC2 lo hi M M1 := fun lo hi q x q1 q2 => F1 x (by omega)
  have km : KM 0 4 1048 0 0 0 M8 := by rw [← eM8]; exact ⟨rfl, rfl, rfl, rfl, rfl, rfl⟩
  have t28 : ∀ lo hi, 0 < lo → (70 < lo ∨ hi < 62) → (42 < lo ∨ hi < 14) → sC2 lo hi M2 M8 := fun lo hi q0 q1 q2 => (((((s23 lo hi q1).tr (s34 lo hi (by omega))).tr (s45 lo hi (by omega))).tr (s56 lo hi (by omega))).tr (s67 lo hi (by omega))).tr (s78 lo hi q0)
  have t38 : ∀ lo hi, 0 < lo → (42 < lo ∨ hi < 14) → sC2 lo hi M3 M8 := fun lo hi q0 q2 => ((((s34 lo hi (by omega)).tr (s45 lo hi (by omega))).tr (s56 lo hi (by omega))).tr (s67 lo hi (by omega))).tr (s78 lo hi q0)
  have t48 : ∀ lo hi, 0 < lo → (42 < lo ∨ hi < 17) → sC2 lo hi M4 M8 := fun lo hi q0 q2 => (((s45 lo hi (by omega)).tr (s56 lo hi (by omega))).tr (s67 lo hi (by omega))).tr (s78 lo hi q0)
  have t58 : ∀ lo hi, 0 < lo → (42 < lo ∨ hi < 22) → sC2 lo hi M5 M8 := fun lo hi q0 q2 => ((s56 lo hi (by omega)).tr (s67 lo hi (by omega))).tr (s78 lo hi q0)
  have g1 : CG (g0 a b P) M8 := (G1.sm (s12 _ _ (by omega))).sm (t28 _ _ (by omega) (by omega) (by omega))
  refine h M8 (RepC_0.mpr ⟨g1, K2.sm (t28 _ _ (by omega) (by omega) (by omega)), ⟨(C3.cs (wG_0 ha ha2 hb hb2 hP hP2) K2.1).sm (t38 _ _ (by omega) (by omega)), fun n hn => ?_⟩, L4.sm (t48 _ _ (by omega) (by omega)), E5.sm (t58 _ _ (by omega) (by omega)), fun p hp => ?_, (fun p hp => (K6 p hp).sm ((s67 _ _ (by omega)).tr (s78 _ _ (by omega)))), ((hT.sm (s01 _ _ (by omega))).sm (s12 _ _ (by omega))).sm (t28 _ _ (by omega) (by omega) (by omega)), km⟩)
  · rw [((t38 70 70 (by omega) (by omega)) 70 (by omega) (by omega)).2.1, show M3.2.1 70 n = M2.2.1 240 n from C3.2.1 9 (by omega) (by omega) n hn]; exact K2.2.1 n hn
  · rw [p8]; exact z7 p hp

set_option maxHeartbeats 4000000 in
set_option maxRecDepth 100000 in
theorem cl_begin {X : xX} {M : xM} {Q : Option Value → xM → Prop} (hX : wX X) (hC : RepC X M) (x0 : Int32) (x1 : Int32) (x2 : Int32) (h : ∀ M2, RepC (st_begin X x0 x1 x2).2 M2 → Q (some (.int (st_begin X x0 x1 x2).1)) M2) : WP shC mX9_begin 0 [some (.ref 0), some (.int x0), some (.int x1), some (.int x2)] [] M Q := by
  obtain ⟨G, S0, now, late, risk, A, L, sq, nl, rf, hr, lg, w, tp⟩ := X
  obtain ⟨hW, hw0, wn, wl, wr, wA_, wsq, wnl, wmo, wtk, wwt, wtp, wO0, wB0⟩ := id hX
  obtain ⟨b1, b2, b3, b4, b5, b6, b7, b8, b9, wmap, wlink, wk0, wk1, b10, b11, wword⟩ := id hW
  have nb : nl ≤ 2000 := by rw [wnl]; exact mcnt_le 2000
  obtain ⟨hG, hKF, hKR, hL, hKE, hKS, hKW, hKT, hKM⟩ := id hC
  obtain ⟨hno, hla, hri, hnl, hrf, hhr⟩ := id hKM
  have hSn : CS G (Zf G A S0 now) M (61 + 10 * (now % 16)) := hKR.1 now (by omega) (by omega)
  have hwn : wS G (Zf G A S0 now) := wS_Zf hW hw0 now
  rcases xrg_cases x0 (lo := 3) (hi := 10) (by omega) (by omega) with ⟨ec0, hc0⟩ | ⟨k0, hk0, hl0, rfl, ec0⟩
  · skip
    refine xi_iload_n dX9_begin_0 rfl ?_
    refine xi_iconst (v := 3) dX9_begin_1 rfl ?_
    refine xi_icmp_lt 32 dX9_begin_2 (by decide) (fun h2 => ?_) (fun h2 => ?_)
    · skip
      refine xi_iconst (v := (-1)) dX9_begin_32 rfl ?_
      refine xi_iret (v := (-1)) dX9_begin_33 rfl ?_
      have e : st_begin (G, S0, now, late, risk, A, L, sq, nl, rf, hr, lg, w, tp) x0 x1 x2 = (-1, (G, S0, now, late, risk, A, L, sq, nl, rf, hr, lg, w, tp)) := by simp only [st_begin, ec0]
      rw [e] at h
      exact h M hC
    · skip
      refine xi_iload_n dX9_begin_5 rfl ?_
      refine xi_bipush (v := 10) dX9_begin_6 (by decide) ?_
      refine xi_icmp_gt 32 dX9_begin_8 (by decide) (fun h8 => ?_) (fun z => hc0.elim (fun q => absurd q h2) (fun q => absurd q z))
      refine xi_iconst (v := (-1)) dX9_begin_32 rfl ?_
      refine xi_iret (v := (-1)) dX9_begin_33 rfl ?_
      have e : st_begin (G, S0, now, late, risk, A, L, sq, nl, rf, hr, lg, w, tp) x0 x1 x2 = (-1, (G, S0, now, late, risk, A, L, sq, nl, rf, hr, lg, w, tp)) := by simp only [st_begin, ec0]
      rw [e] at h
      exact h M hC
  rcases xrg_cases x1 (lo := 3) (hi := 10) (by omega) (by omega) with ⟨ec1, hc1⟩ | ⟨k1, hk1, hl1, rfl, ec1⟩
  · skip
    refine xi_iload_n dX9_begin_0 rfl ?_
    refine xi_iconst (v := 3) dX9_begin_1 rfl ?_
    refine xn_icmp_lt k0 3 32 dX9_begin_2 (by decide) rfl rfl (by omega) (by omega) (fun z => absurd z (by omega)) (fun h2 => ?_)
    refine xi_iload_n dX9_begin_5 rfl ?_
    refine xi_bipush (v := 10) dX9_begin_6 (by decide) ?_
    refine xn_icmp_gt k0 10 32 dX9_begin_8 (by decide) rfl rfl (by omega) (by omega) (fun z => absurd z (by omega)) (fun h8 => ?_)
    refine xi_iload_n dX9_begin_11 rfl ?_
    refine xi_iconst (v := 3) dX9_begin_12 rfl ?_
    refine xi_icmp_lt 32 dX9_begin_13 (by decide) (fun h13 => ?_) (fun h13 => ?_)
    · skip
      refine xi_iconst (v := (-1)) dX9_begin_32 rfl ?_
      refine xi_iret (v := (-1)) dX9_begin_33 rfl ?_
      have e : st_begin (G, S0, now, late, risk, A, L, sq, nl, rf, hr, lg, w, tp) (nI k0) x1 x2 = (-1, (G, S0, now, late, risk, A, L, sq, nl, rf, hr, lg, w, tp)) := by simp only [st_begin, ec0, ec1]
      rw [e] at h
      exact h M hC
    · skip
      refine xi_iload_n dX9_begin_16 rfl ?_
      refine xi_bipush (v := 10) dX9_begin_17 (by decide) ?_
      refine xi_icmp_gt 32 dX9_begin_19 (by decide) (fun h19 => ?_) (fun z => hc1.elim (fun q => absurd q h13) (fun q => absurd q z))
      refine xi_iconst (v := (-1)) dX9_begin_32 rfl ?_
      refine xi_iret (v := (-1)) dX9_begin_33 rfl ?_
      have e : st_begin (G, S0, now, late, risk, A, L, sq, nl, rf, hr, lg, w, tp) (nI k0) x1 x2 = (-1, (G, S0, now, late, risk, A, L, sq, nl, rf, hr, lg, w, tp)) := by simp only [st_begin, ec0, ec1]
      rw [e] at h
      exact h M hC
  rcases xrg_cases x2 (lo := 1) (hi := 4) (by omega) (by omega) with ⟨ec2, hc2⟩ | ⟨k2, hk2, hl2, rfl, ec2⟩
  · skip
    refine xi_iload_n dX9_begin_0 rfl ?_
    refine xi_iconst (v := 3) dX9_begin_1 rfl ?_
    refine xn_icmp_lt k0 3 32 dX9_begin_2 (by decide) rfl rfl (by omega) (by omega) (fun z => absurd z (by omega)) (fun h2 => ?_)
    refine xi_iload_n dX9_begin_5 rfl ?_
    refine xi_bipush (v := 10) dX9_begin_6 (by decide) ?_
    refine xn_icmp_gt k0 10 32 dX9_begin_8 (by decide) rfl rfl (by omega) (by omega) (fun z => absurd z (by omega)) (fun h8 => ?_)
    refine xi_iload_n dX9_begin_11 rfl ?_
    refine xi_iconst (v := 3) dX9_begin_12 rfl ?_
    refine xn_icmp_lt k1 3 32 dX9_begin_13 (by decide) rfl rfl (by omega) (by omega) (fun z => absurd z (by omega)) (fun h13 => ?_)
    refine xi_iload_n dX9_begin_16 rfl ?_
    refine xi_bipush (v := 10) dX9_begin_17 (by decide) ?_
    refine xat 19 rfl ?_
    refine xn_icmp_gt k1 10 32 dX9_begin_19 (by decide) rfl rfl (by omega) (by omega) (fun z => absurd z (by omega)) (fun h19 => ?_)
    refine xi_iload_n dX9_begin_22 rfl ?_
    refine xi_iconst (v := 1) dX9_begin_23 rfl ?_
    refine xi_icmp_lt 32 dX9_begin_24 (by decide) (fun h24 => ?_) (fun h24 => ?_)
    · skip
      refine xi_iconst (v := (-1)) dX9_begin_32 rfl ?_
      refine xi_iret (v := (-1)) dX9_begin_33 rfl ?_
      have e : st_begin (G, S0, now, late, risk, A, L, sq, nl, rf, hr, lg, w, tp) (nI k0) (nI k1) x2 = (-1, (G, S0, now, late, risk, A, L, sq, nl, rf, hr, lg, w, tp)) := by simp only [st_begin, ec0, ec1, ec2]
      rw [e] at h
      exact h M hC
    · skip
      refine xi_iload_n dX9_begin_27 rfl ?_
      refine xi_iconst (v := 4) dX9_begin_28 rfl ?_
      refine xi_icmp_le 34 dX9_begin_29 (by decide) (fun z => hc2.elim (fun q => absurd q h24) (fun q => absurd q (Int32.not_lt.mpr z))) (fun h29 => ?_)
      refine xi_iconst (v := (-1)) dX9_begin_32 rfl ?_
      refine xi_iret (v := (-1)) dX9_begin_33 rfl ?_
      have e : st_begin (G, S0, now, late, risk, A, L, sq, nl, rf, hr, lg, w, tp) (nI k0) (nI k1) x2 = (-1, (G, S0, now, late, risk, A, L, sq, nl, rf, hr, lg, w, tp)) := by simp only [st_begin, ec0, ec1, ec2]
      rw [e] at h
      exact h M hC
  refine xi_iload_n dX9_begin_0 rfl ?_
  refine xi_iconst (v := 3) dX9_begin_1 rfl ?_
  refine xn_icmp_lt k0 3 32 dX9_begin_2 (by decide) rfl rfl (by omega) (by omega) (fun z => absurd z (by omega)) (fun h2 => ?_)
  refine xi_iload_n dX9_begin_5 rfl ?_
  refine xi_bipush (v := 10) dX9_begin_6 (by decide) ?_
  refine xn_icmp_gt k0 10 32 dX9_begin_8 (by decide) rfl rfl (by omega) (by omega) (fun z => absurd z (by omega)) (fun h8 => ?_)
  refine xi_iload_n dX9_begin_11 rfl ?_
  refine xi_iconst (v := 3) dX9_begin_12 rfl ?_
  refine xn_icmp_lt k1 3 32 dX9_begin_13 (by decide) rfl rfl (by omega) (by omega) (fun z => absurd z (by omega)) (fun h13 => ?_)
  refine xi_iload_n dX9_begin_16 rfl ?_
  refine xi_bipush (v := 10) dX9_begin_17 (by decide) ?_
  refine xat 19 rfl ?_
  refine xn_icmp_gt k1 10 32 dX9_begin_19 (by decide) rfl rfl (by omega) (by omega) (fun z => absurd z (by omega)) (fun h19 => ?_)
  refine xi_iload_n dX9_begin_22 rfl ?_
  refine xi_iconst (v := 1) dX9_begin_23 rfl ?_
  refine xn_icmp_lt k2 1 32 dX9_begin_24 (by decide) rfl rfl (by omega) (by omega) (fun z => absurd z (by omega)) (fun h24 => ?_)
  refine xi_iload_n dX9_begin_27 rfl ?_
  refine xi_iconst (v := 4) dX9_begin_28 rfl ?_
  refine xn_icmp_le k2 4 34 dX9_begin_29 (by decide) rfl rfl (by omega) (by omega) (fun h29 => ?_) (fun z => absurd z (by omega))
  refine xi_aload_n dX9_begin_34 rfl ?_
  refine xi_iload_n dX9_begin_35 rfl ?_
  refine xi_iload_n dX9_begin_36 rfl ?_
  refine xi_iload_n dX9_begin_37 rfl ?_
  refine xi_callV [.int (nI k0), .int (nI k1), .int (nI k2)] [] dX9_begin_38 zX9_startAnew mlX9_69 cc0 rfl rfl rfl rfl rfl (Nat.le_of_ble_eq_true rfl) (Nat.le_of_ble_eq_true rfl) ⟨by decide, by decide⟩ ?_
  refine c_new hk0 hl0 hk1 hl1 hk2 hl2 hKT (fun M1 hC1 => ?_)
  show WP _ _ 41 _ [] _ _
  refine xi_aload_n dX9_begin_41 rfl ?_
  refine xi_getR dX9_begin_42 fgX9_10 cc0 rfl ?_
  refine xe_getI (v := nI (k0 * k1)) dX9_begin_45 fgX9_73 cc1 rfl (show M1.1 1 3 = nI (k0 * k1) from hC1.1.2.2.2.1) ?_
  refine xi_iret (v := nI (k0 * k1)) dX9_begin_48 rfl ?_
  simp only [st_begin, ec0, ec1, ec2] at h
  exact h M1 hC1

