def FB (a b p : Nat) (M : xM) : Prop := M.1 0 8 = nI p ∧ (∀ n, n < p → M.2.1 4 n = nI 0) ∧ (∀ n, n < p → M.2.1 5 (6 * n + 0) = nI (c0 a b n) ∧ M.2.1 5 (6 * n + 1) = nI 5 ∧ M.2.1 5 (6 * n + 2) = 1 ∧ M.2.1 5 (6 * n + 3) = nI 0 ∧ M.2.1 5 (6 * n + 4) = xo none ∧ M.2.1 5 (6 * n + 5) = xo none) ∧ ∀ i, 6 * p ≤ i → i < 112 → M.2.1 5 i = 0
theorem FB.step {a b p : Nat} {M M2 : xM} (h : FB a b p M) (f : FA p 0 (nI (c0 a b p)) M M2) : FB a b (p + 1) M2 := by
  obtain ⟨h1, h2, h3, h4⟩ := h
  obtain ⟨f1, f2, f3, f4, f5, c0_, c1, c2, c3, c4, c5, fo⟩ := f
  refine ⟨f2, fun n hn => ?_, fun n hn => ?_, fun i q1 q2 => ?_⟩
  · rw [f5]
    by_cases e : n = p
    · rw [e, upd_s]
    · rw [upd_n e]; exact h2 n (by omega)
  · by_cases e : n = p
    · rw [e]; exact ⟨c0_, c1, c2, c3, c4, c5⟩
    · obtain ⟨m0, m1, m2, m3, m4, m5⟩ := h3 n (by omega)
      exact ⟨(fo _ (by omega)).trans m0, (fo _ (by omega)).trans m1, (fo _ (by omega)).trans m2, (fo _ (by omega)).trans m3, (fo _ (by omega)).trans m4, (fo _ (by omega)).trans m5⟩
  · rw [fo _ (by omega)]; exact h4 i (by omega) q2
theorem RM_0 {a b P : Nat} {M : xM} (hP2 : P ≤ 4) (h : FB a b P M) : RM (g0 a b P) (s0 a b P) M 0 := by
  obtain ⟨h1, h2, h3, h4⟩ := h
  refine ⟨fun n hn => ?_, fun n hn => ?_, fun n hn => ?_, fun n hn => ?_, fun n hn => ?_, fun n hn => ?_, fun n hn => ?_, fun n hn => ?_, fun n hn => absurd hn (Nat.not_lt_zero _), fun n q1 q2 => absurd q2 (Nat.not_lt.mpr q1)⟩
  · change n < P at hn
    rw [Nat.zero_add, (h3 n hn).1]; exact (if_pos hn).symm
  · change n < P at hn
    rw [Nat.zero_add, (h3 n hn).2.1]; exact congrArg nI (if_pos hn).symm
  · change n < P at hn
    rw [Nat.zero_add, (h3 n hn).2.2.2.2.2]; rfl
  · change n < P at hn
    rw [Nat.zero_add, (h3 n hn).2.2.1]; rfl
  · change n < P at hn
    rw [Nat.zero_add, (h3 n hn).2.2.2.1]; rfl
  · change n < P at hn
    rw [Nat.zero_add, (h3 n hn).2.2.2.2.1]; rfl
  · change n < P at hn
    rw [Nat.zero_add]; exact h4 _ (by omega) (by omega)
  · change n < P at hn
    rw [Nat.zero_add]; exact h4 _ (by omega) (by omega)
set_option maxHeartbeats 4000000 in
set_option maxRecDepth 100000 in
theorem f1 {Q : Option Value → xM → Prop} : ∀ (f k : Nat) (M : xM), k + f = 100 → ((∀ j, j < k → M.2.1 1 j = 0)) → (∀ M2, (M2.1 = M.1 ∧ M2.2.2 = M.2.2 ∧ ∀ a, ¬ a = 1 → M2.2.1 a = M.2.1 a) → ((∀ j, j < 100 → M2.2.1 1 j = 0)) → WP shM mX10_fresh 21 [some (.ref 0), some (.int (nI 100)), none] [] M2 Q) → WP shM mX10_fresh 2 [some (.ref 0), some (.int (nI k)), none] [] M Q := by
  intro f
  induction f with
  | zero =>
    intro k M hf hi h
    refine xi_iload_n dX10_fresh_2 rfl ?_
    refine xi_bipush (v := 100) dX10_fresh_3 (by decide) ?_
    refine xn_icmp_ge k 100 21 dX10_fresh_5 (by decide) rfl rfl (by omega) (by omega) (fun h5 => ?_) (fun z => absurd z (by omega))
    obtain rfl : k = 100 := by omega
    exact h M ⟨rfl, rfl, fun _ _ => rfl⟩ hi
  | succ f ih =>
    intro k M hf hi h
    refine xi_iload_n dX10_fresh_2 rfl ?_
    refine xi_bipush (v := 100) dX10_fresh_3 (by decide) ?_
    refine xn_icmp_ge k 100 21 dX10_fresh_5 (by decide) rfl rfl (by omega) (by omega) (fun z => absurd z (by omega)) (fun h5 => ?_)
    refine xi_aload_n dX10_fresh_8 rfl ?_
    refine xi_getR dX10_fresh_9 fgX10_19 mm0 rfl ?_
    refine xi_iload_n dX10_fresh_12 rfl ?_
    refine xi_iconst (v := 0) dX10_fresh_13 rfl ?_
    refine xe_iast k dX10_fresh_14 mm1 (by decide) rfl (by omega) ?_
    refine xi_iinc (v := nI (k + 1)) (lv' := [some (.ref 0), some (.int (nI (k + 1))), none]) dX10_fresh_15 rfl (xinc k) (by decide) rfl ?_
    refine xi_goto 2 dX10_fresh_18 (by decide) ?_
    generalize eM1 : (xa M 1 (upd (M.2.1 1) k 0)) = M1
    have F1 : (M1.1 = M.1 ∧ M1.2.2 = M.2.2 ∧ ∀ a, ¬ a = 1 → M1.2.1 a = M.2.1 a) := by rw [← eM1]; exact ⟨rfl, rfl, fun a a1 => by rw [xa_n a1]⟩
    have v1 : ∀ j, j < k + 1 → M1.2.1 1 j = 0 := by
      intro j hj
      rw [← eM1, xa_s]
      by_cases e : j = k
      · rw [e, upd_s]
      · rw [upd_n e]; exact hi j (by omega)
    exact ih (k + 1) M1 (by omega) v1 (fun M2 F2 z => h M2 ⟨F2.1.trans F1.1, F2.2.1.trans F1.2.1, fun a a1 => (F2.2.2 a a1).trans (F1.2.2 a a1)⟩ z)

set_option maxHeartbeats 4000000 in
set_option maxRecDepth 100000 in
theorem f2 {Q : Option Value → xM → Prop} : ∀ (f k : Nat) (M : xM), k + f = 2000 → ((∀ j, j < k → M.2.1 6 j = 4096) ∧ (∀ j, j < k → M.2.1 7 j = 0) ∧ (∀ j, j < k → M.2.1 8 j = 0)) → (∀ M2, (M2.1 = M.1 ∧ M2.2.2 = M.2.2 ∧ ∀ a, ¬ a = 6 → ¬ a = 7 → ¬ a = 8 → M2.2.1 a = M.2.1 a) → ((∀ j, j < 2000 → M2.2.1 6 j = 4096) ∧ (∀ j, j < 2000 → M2.2.1 7 j = 0) ∧ (∀ j, j < 2000 → M2.2.1 8 j = 0)) → WP shM mX10_fresh 86 [some (.ref 0), some (.int (nI 2000)), none] [] M2 Q) → WP shM mX10_fresh 50 [some (.ref 0), some (.int (nI k)), none] [] M Q := by
  intro f
  induction f with
  | zero =>
    intro k M hf hi h
    refine xi_iload_n dX10_fresh_50 rfl ?_
    refine xi_sipush (v := 2000) dX10_fresh_51 (by decide) ?_
    refine xn_icmp_ge k 2000 86 dX10_fresh_54 (by decide) rfl rfl (by omega) (by omega) (fun h54 => ?_) (fun z => absurd z (by omega))
    obtain rfl : k = 2000 := by omega
    exact h M ⟨rfl, rfl, fun _ _ _ _ => rfl⟩ hi
  | succ f ih =>
    intro k M hf hi h
    refine xi_iload_n dX10_fresh_50 rfl ?_
    refine xi_sipush (v := 2000) dX10_fresh_51 (by decide) ?_
    refine xn_icmp_ge k 2000 86 dX10_fresh_54 (by decide) rfl rfl (by omega) (by omega) (fun z => absurd z (by omega)) (fun h54 => ?_)
    refine xi_aload_n dX10_fresh_57 rfl ?_
    refine xi_getR dX10_fresh_58 fgX10_42 mm0 rfl ?_
    refine xi_iload_n dX10_fresh_61 rfl ?_
    refine xi_sipush (v := 4096) dX10_fresh_62 (by decide) ?_
    refine xe_iast k dX10_fresh_65 mm6 (by decide) rfl (by omega) ?_
    refine xi_aload_n dX10_fresh_66 rfl ?_
    refine xi_getR dX10_fresh_67 fgX10_45 mm0 rfl ?_
    refine xi_iload_n dX10_fresh_70 rfl ?_
    refine xat 71 rfl ?_
    refine xi_iconst (v := 0) dX10_fresh_71 rfl ?_
    refine xe_zast (v := 0) k dX10_fresh_72 mm7 (by decide) rfl (by omega) (by decide) ?_
    refine xi_aload_n dX10_fresh_73 rfl ?_
    refine xi_getR dX10_fresh_74 fgX10_49 mm0 rfl ?_
    refine xi_iload_n dX10_fresh_77 rfl ?_
    refine xi_iconst (v := 0) dX10_fresh_78 rfl ?_
    refine xe_iast k dX10_fresh_79 mm8 (by decide) rfl (by omega) ?_
    refine xi_iinc (v := nI (k + 1)) (lv' := [some (.ref 0), some (.int (nI (k + 1))), none]) dX10_fresh_80 rfl (xinc k) (by decide) rfl ?_
    refine xi_goto 50 dX10_fresh_83 (by decide) ?_
    generalize eM1 : (xa (xa (xa M 6 (upd (M.2.1 6) k 4096)) 7 (upd ((xa M 6 (upd (M.2.1 6) k 4096)).2.1 7) k 0)) 8 (upd ((xa (xa M 6 (upd (M.2.1 6) k 4096)) 7 (upd ((xa M 6 (upd (M.2.1 6) k 4096)).2.1 7) k 0)).2.1 8) k 0)) = M1
    have F1 : (M1.1 = M.1 ∧ M1.2.2 = M.2.2 ∧ ∀ a, ¬ a = 6 → ¬ a = 7 → ¬ a = 8 → M1.2.1 a = M.2.1 a) := by rw [← eM1]; exact ⟨rfl, rfl, fun a a6 a7 a8 => by rw [xa_n a8, xa_n a7, xa_n a6]⟩
    have v6 : ∀ j, j < k + 1 → M1.2.1 6 j = 4096 := by
      intro j hj
      rw [← eM1, xa_n (by decide), xa_n (by decide), xa_s]
      by_cases e : j = k
      · rw [e, upd_s]
      · rw [upd_n e]; exact hi.1 j (by omega)
    have v7 : ∀ j, j < k + 1 → M1.2.1 7 j = 0 := by
      intro j hj
      rw [← eM1, xa_n (by decide), xa_s, xa_n (by decide)]
      by_cases e : j = k
      · rw [e, upd_s]
      · rw [upd_n e]; exact hi.2.1 j (by omega)
    have v8 : ∀ j, j < k + 1 → M1.2.1 8 j = 0 := by
      intro j hj
      rw [← eM1, xa_s, xa_n (by decide), xa_n (by decide)]
      by_cases e : j = k
      · rw [e, upd_s]
      · rw [upd_n e]; exact hi.2.2 j (by omega)
    exact ih (k + 1) M1 (by omega) ⟨v6, v7, v8⟩ (fun M2 F2 z => h M2 ⟨F2.1.trans F1.1, F2.2.1.trans F1.2.1, fun a a6 a7 a8 => (F2.2.2 a a6 a7 a8).trans (F1.2.2 a a6 a7 a8)⟩ z)

set_option maxHeartbeats 4000000 in
set_option maxRecDepth 100000 in
theorem f3 {Q : Option Value → xM → Prop} : ∀ (f k : Nat) (M : xM), k + f = 112 → ((∀ j, j < k → M.2.1 5 j = 0)) → (∀ M2, (M2.1 = M.1 ∧ M2.2.2 = M.2.2 ∧ ∀ a, ¬ a = 5 → M2.2.1 a = M.2.1 a) → ((∀ j, j < 112 → M2.2.1 5 j = 0)) → WP shM mX10_fresh 107 [some (.ref 0), some (.int (nI 112)), none] [] M2 Q) → WP shM mX10_fresh 88 [some (.ref 0), some (.int (nI k)), none] [] M Q := by
  intro f
  induction f with
  | zero =>
    intro k M hf hi h
    refine xi_iload_n dX10_fresh_88 rfl ?_
    refine xi_bipush (v := 112) dX10_fresh_89 (by decide) ?_
    refine xn_icmp_ge k 112 107 dX10_fresh_91 (by decide) rfl rfl (by omega) (by omega) (fun h91 => ?_) (fun z => absurd z (by omega))
    obtain rfl : k = 112 := by omega
    exact h M ⟨rfl, rfl, fun _ _ => rfl⟩ hi
  | succ f ih =>
    intro k M hf hi h
    refine xi_iload_n dX10_fresh_88 rfl ?_
    refine xi_bipush (v := 112) dX10_fresh_89 (by decide) ?_
    refine xn_icmp_ge k 112 107 dX10_fresh_91 (by decide) rfl rfl (by omega) (by omega) (fun z => absurd z (by omega)) (fun h91 => ?_)
    refine xi_aload_n dX10_fresh_94 rfl ?_
    refine xi_getR dX10_fresh_95 fgX10_39 mm0 rfl ?_
    refine xi_iload_n dX10_fresh_98 rfl ?_
    refine xi_iconst (v := 0) dX10_fresh_99 rfl ?_
    refine xe_iast k dX10_fresh_100 mm5 (by decide) rfl (by omega) ?_
    refine xi_iinc (v := nI (k + 1)) (lv' := [some (.ref 0), some (.int (nI (k + 1))), none]) dX10_fresh_101 rfl (xinc k) (by decide) rfl ?_
    refine xi_goto 88 dX10_fresh_104 (by decide) ?_
    generalize eM1 : (xa M 5 (upd (M.2.1 5) k 0)) = M1
    have F1 : (M1.1 = M.1 ∧ M1.2.2 = M.2.2 ∧ ∀ a, ¬ a = 5 → M1.2.1 a = M.2.1 a) := by rw [← eM1]; exact ⟨rfl, rfl, fun a a5 => by rw [xa_n a5]⟩
    have v5 : ∀ j, j < k + 1 → M1.2.1 5 j = 0 := by
      intro j hj
      rw [← eM1, xa_s]
      by_cases e : j = k
      · rw [e, upd_s]
      · rw [upd_n e]; exact hi j (by omega)
    exact ih (k + 1) M1 (by omega) v5 (fun M2 F2 z => h M2 ⟨F2.1.trans F1.1, F2.2.1.trans F1.2.1, fun a a5 => (F2.2.2 a a5).trans (F1.2.2 a a5)⟩ z)

set_option maxHeartbeats 4000000 in
set_option maxRecDepth 100000 in
theorem f4 {Q : Option Value → xM → Prop} : ∀ (f k : Nat) (M : xM), k + f = 4 → ((∀ j, j < k → M.2.1 9 j = 0) ∧ (∀ j, j < k → M.2.1 16 j = (-1)) ∧ (∀ j, j < k → M.2.1 17 j = (-1))) → (∀ M2, (M2.1 = M.1 ∧ M2.2.2 = M.2.2 ∧ ∀ a, ¬ a = 9 → ¬ a = 16 → ¬ a = 17 → M2.2.1 a = M.2.1 a) → ((∀ j, j < 4 → M2.2.1 9 j = 0) ∧ (∀ j, j < 4 → M2.2.1 16 j = (-1)) ∧ (∀ j, j < 4 → M2.2.1 17 j = (-1))) → WP shM mX10_fresh 141 [some (.ref 0), some (.int (nI 4)), none] [] M2 Q) → WP shM mX10_fresh 109 [some (.ref 0), some (.int (nI k)), none] [] M Q := by
  intro f
  induction f with
  | zero =>
    intro k M hf hi h
    refine xi_iload_n dX10_fresh_109 rfl ?_
    refine xi_iconst (v := 4) dX10_fresh_110 rfl ?_
    refine xn_icmp_ge k 4 141 dX10_fresh_111 (by decide) rfl rfl (by omega) (by omega) (fun h111 => ?_) (fun z => absurd z (by omega))
    obtain rfl : k = 4 := by omega
    exact h M ⟨rfl, rfl, fun _ _ _ _ => rfl⟩ hi
  | succ f ih =>
    intro k M hf hi h
    refine xi_iload_n dX10_fresh_109 rfl ?_
    refine xi_iconst (v := 4) dX10_fresh_110 rfl ?_
    refine xn_icmp_ge k 4 141 dX10_fresh_111 (by decide) rfl rfl (by omega) (by omega) (fun z => absurd z (by omega)) (fun h111 => ?_)
    refine xi_aload_n dX10_fresh_114 rfl ?_
    refine xi_getR dX10_fresh_115 fgX10_52 mm0 rfl ?_
    refine xi_iload_n dX10_fresh_118 rfl ?_
    refine xi_iconst (v := 0) dX10_fresh_119 rfl ?_
    refine xe_iast k dX10_fresh_120 mm9 (by decide) rfl (by omega) ?_
    refine xi_aload_n dX10_fresh_121 rfl ?_
    refine xi_getR dX10_fresh_122 fgX10_74 mm0 rfl ?_
    refine xi_iload_n dX10_fresh_125 rfl ?_
    refine xat 126 rfl ?_
    refine xi_iconst (v := (-1)) dX10_fresh_126 rfl ?_
    refine xe_iast k dX10_fresh_127 mm16 (by decide) rfl (by omega) ?_
    refine xi_aload_n dX10_fresh_128 rfl ?_
    refine xi_getR dX10_fresh_129 fgX10_77 mm0 rfl ?_
    refine xi_iload_n dX10_fresh_132 rfl ?_
    refine xi_iconst (v := (-1)) dX10_fresh_133 rfl ?_
    refine xe_iast k dX10_fresh_134 mm17 (by decide) rfl (by omega) ?_
    refine xi_iinc (v := nI (k + 1)) (lv' := [some (.ref 0), some (.int (nI (k + 1))), none]) dX10_fresh_135 rfl (xinc k) (by decide) rfl ?_
    refine xi_goto 109 dX10_fresh_138 (by decide) ?_
    generalize eM1 : (xa (xa (xa M 9 (upd (M.2.1 9) k 0)) 16 (upd ((xa M 9 (upd (M.2.1 9) k 0)).2.1 16) k (-1))) 17 (upd ((xa (xa M 9 (upd (M.2.1 9) k 0)) 16 (upd ((xa M 9 (upd (M.2.1 9) k 0)).2.1 16) k (-1))).2.1 17) k (-1))) = M1
    have F1 : (M1.1 = M.1 ∧ M1.2.2 = M.2.2 ∧ ∀ a, ¬ a = 9 → ¬ a = 16 → ¬ a = 17 → M1.2.1 a = M.2.1 a) := by rw [← eM1]; exact ⟨rfl, rfl, fun a a9 a16 a17 => by rw [xa_n a17, xa_n a16, xa_n a9]⟩
    have v9 : ∀ j, j < k + 1 → M1.2.1 9 j = 0 := by
      intro j hj
      rw [← eM1, xa_n (by decide), xa_n (by decide), xa_s]
      by_cases e : j = k
      · rw [e, upd_s]
      · rw [upd_n e]; exact hi.1 j (by omega)
    have v16 : ∀ j, j < k + 1 → M1.2.1 16 j = (-1) := by
      intro j hj
      rw [← eM1, xa_n (by decide), xa_s, xa_n (by decide)]
      by_cases e : j = k
      · rw [e, upd_s]
      · rw [upd_n e]; exact hi.2.1 j (by omega)
    have v17 : ∀ j, j < k + 1 → M1.2.1 17 j = (-1) := by
      intro j hj
      rw [← eM1, xa_s, xa_n (by decide), xa_n (by decide)]
      by_cases e : j = k
      · rw [e, upd_s]
      · rw [upd_n e]; exact hi.2.2 j (by omega)
    exact ih (k + 1) M1 (by omega) ⟨v9, v16, v17⟩ (fun M2 F2 z => h M2 ⟨F2.1.trans F1.1, F2.2.1.trans F1.2.1, fun a a9 a16 a17 => (F2.2.2 a a9 a16 a17).trans (F1.2.2 a a9 a16 a17)⟩ z)

set_option maxHeartbeats 4000000 in
set_option maxRecDepth 100000 in
theorem f5i {Q : Option Value → xM → Prop} {k : Nat} (hk : k < 8) : ∀ (f i : Nat) (M : xM), i + f = 65 → (∀ j, j < i → M.2.2 15 (65 * k + j) = nJ (if j = 0 then 1048576 else 0)) → (∀ M2, (M2.1 = M.1 ∧ M2.2.1 = M.2.1 ∧ (∀ a, ¬ a = 15 → M2.2.2 a = M.2.2 a) ∧ ∀ j, (j < 65 * k ∨ 65 * k + 65 ≤ j) → M2.2.2 15 j = M.2.2 15 j) → (∀ j, j < 65 → M2.2.2 15 (65 * k + j) = nJ (if j = 0 then 1048576 else 0)) → WP shM mX10_fresh 206 [some (.ref 0), some (.int (nI k)), some (.int (nI 65))] [] M2 Q) → WP shM mX10_fresh 172 [some (.ref 0), some (.int (nI k)), some (.int (nI i))] [] M Q := by
  intro f
  induction f with
  | zero =>
    intro i M hf hi h
    refine xi_iload_n dX10_fresh_172 rfl ?_
    refine xi_bipush (v := 65) dX10_fresh_173 (by decide) ?_
    refine xn_icmp_ge i 65 206 dX10_fresh_175 (by decide) rfl rfl (by omega) (by omega) (fun h175 => ?_) (fun z => absurd z (by omega))
    obtain rfl : i = 65 := by omega
    exact h M ⟨rfl, rfl, fun _ _ => rfl, fun _ _ => rfl⟩ hi
  | succ f ih =>
    intro i M hf hi h
    refine xi_iload_n dX10_fresh_172 rfl ?_
    refine xi_bipush (v := 65) dX10_fresh_173 (by decide) ?_
    refine xn_icmp_ge i 65 206 dX10_fresh_175 (by decide) rfl rfl (by omega) (by omega) (fun z => absurd z (by omega)) (fun h175 => ?_)
    refine xi_aload_n dX10_fresh_178 rfl ?_
    refine xi_getR dX10_fresh_179 fgX10_70 mm0 rfl ?_
    refine xi_bipush (v := 65) dX10_fresh_182 (by decide) ?_
    refine xi_iload_n dX10_fresh_184 rfl ?_
    refine xe_imul dX10_fresh_185 (v := nI (65 * k)) (pk_mul 65 k) ?_
    refine xi_iload_n dX10_fresh_186 rfl ?_
    refine xe_iadd dX10_fresh_187 (v := nI (65 * k + i)) (nI_add (65 * k) i) ?_
    refine xi_iload_n dX10_fresh_188 rfl ?_
    refine xat 189 rfl ?_
    refine xn_if_ne i 198 dX10_fresh_189 (by decide) rfl (by omega) (fun h189 => ?_) (fun h189 => ?_)
    · skip
      refine xi_lconst (v := 0) dX10_fresh_198 rfl ?_
      refine xe_last (65 * k + i) dX10_fresh_199 mm15 (by decide) rfl (by omega) ?_
      refine xi_iinc (v := nI (i + 1)) (lv' := [some (.ref 0), some (.int (nI k)), some (.int (nI (i + 1)))]) dX10_fresh_200 rfl (xinc i) (by decide) rfl ?_
      refine xi_goto 172 dX10_fresh_203 (by decide) ?_
      generalize eM1 : (xj M 15 (vp_updL (M.2.2 15) (65 * k + i) 0)) = M1
      have F1 : (M1.1 = M.1 ∧ M1.2.1 = M.2.1 ∧ (∀ a, ¬ a = 15 → M1.2.2 a = M.2.2 a) ∧ ∀ j, (j < 65 * k ∨ 65 * k + 65 ≤ j) → M1.2.2 15 j = M.2.2 15 j) := by rw [← eM1]; exact ⟨rfl, rfl, fun a ha => xj_n ha, fun j hj => by rw [xj_s, updL_n (by omega)]⟩
      have v1 : ∀ j, j < i + 1 → M1.2.2 15 (65 * k + j) = nJ (if j = 0 then 1048576 else 0) := by
        intro j hj
        rw [← eM1, xj_s]
        by_cases e : j = i
        · rw [e, updL_s]; first | (rw [if_pos h189]; rfl) | (rw [if_neg h189]; rfl)
        · rw [updL_n (by omega)]; exact hi j (by omega)
      exact ih (i + 1) M1 (by omega) v1 (fun M2 F2 z => h M2 ⟨F2.1.trans F1.1, F2.2.1.trans F1.2.1, fun a ha => (F2.2.2.1 a ha).trans (F1.2.2.1 a ha), fun j hj => (F2.2.2.2 j hj).trans (F1.2.2.2 j hj)⟩ z)
    · skip
      refine xi_ldc2 (v := 1048576) dX10_fresh_192 kcX10_113 ?_
      refine xi_goto 199 dX10_fresh_195 (by decide) ?_
      refine xe_last (65 * k + i) dX10_fresh_199 mm15 (by decide) rfl (by omega) ?_
      refine xi_iinc (v := nI (i + 1)) (lv' := [some (.ref 0), some (.int (nI k)), some (.int (nI (i + 1)))]) dX10_fresh_200 rfl (xinc i) (by decide) rfl ?_
      refine xi_goto 172 dX10_fresh_203 (by decide) ?_
      generalize eM1 : (xj M 15 (vp_updL (M.2.2 15) (65 * k + i) 1048576)) = M1
      have F1 : (M1.1 = M.1 ∧ M1.2.1 = M.2.1 ∧ (∀ a, ¬ a = 15 → M1.2.2 a = M.2.2 a) ∧ ∀ j, (j < 65 * k ∨ 65 * k + 65 ≤ j) → M1.2.2 15 j = M.2.2 15 j) := by rw [← eM1]; exact ⟨rfl, rfl, fun a ha => xj_n ha, fun j hj => by rw [xj_s, updL_n (by omega)]⟩
      have v1 : ∀ j, j < i + 1 → M1.2.2 15 (65 * k + j) = nJ (if j = 0 then 1048576 else 0) := by
        intro j hj
        rw [← eM1, xj_s]
        by_cases e : j = i
        · rw [e, updL_s]; first | (rw [if_pos h189]; rfl) | (rw [if_neg h189]; rfl)
        · rw [updL_n (by omega)]; exact hi j (by omega)
      exact ih (i + 1) M1 (by omega) v1 (fun M2 F2 z => h M2 ⟨F2.1.trans F1.1, F2.2.1.trans F1.2.1, fun a ha => (F2.2.2.1 a ha).trans (F1.2.2.1 a ha), fun j hj => (F2.2.2.2 j hj).trans (F1.2.2.2 j hj)⟩ z)

set_option maxHeartbeats 4000000 in
set_option maxRecDepth 100000 in
theorem f5 {Q : Option Value → xM → Prop} : ∀ (f k : Nat) (M : xM), k + f = 8 → (∀ q, q < k → MO o0 M q) → (∀ M2, (M2.1 = M.1 ∧ (∀ a, ¬ a = 12 → ¬ a = 13 → ¬ a = 14 → M2.2.1 a = M.2.1 a) ∧ ∀ a, ¬ a = 15 → M2.2.2 a = M.2.2 a) → (∀ q, q < 8 → MO o0 M2 q) → WP shM mX10_fresh 212 [some (.ref 0), some (.int (nI 8)), none] [] M2 Q) → WP shM mX10_fresh 143 [some (.ref 0), some (.int (nI k)), none] [] M Q := by
  intro f
  induction f with
  | zero =>
    intro k M hf hi h
    refine xi_iload_n dX10_fresh_143 rfl ?_
    refine xi_bipush (v := 8) dX10_fresh_144 (by decide) ?_
    refine xn_icmp_ge k 8 212 dX10_fresh_146 (by decide) rfl rfl (by omega) (by omega) (fun h146 => ?_) (fun z => absurd z (by omega))
    obtain rfl : k = 8 := by omega
    exact h M ⟨rfl, fun _ _ _ _ => rfl, fun _ _ => rfl⟩ hi
  | succ f ih =>
    intro k M hf hi h
    refine xi_iload_n dX10_fresh_143 rfl ?_
    refine xi_bipush (v := 8) dX10_fresh_144 (by decide) ?_
    refine xn_icmp_ge k 8 212 dX10_fresh_146 (by decide) rfl rfl (by omega) (by omega) (fun z => absurd z (by omega)) (fun h146 => ?_)
    refine xi_aload_n dX10_fresh_149 rfl ?_
    refine xi_getR dX10_fresh_150 fgX10_61 mm0 rfl ?_
    refine xi_iload_n dX10_fresh_153 rfl ?_
    refine xi_iconst (v := 0) dX10_fresh_154 rfl ?_
    refine xe_iast k dX10_fresh_155 mm12 (by decide) rfl (by omega) ?_
    refine xi_aload_n dX10_fresh_156 rfl ?_
    refine xi_getR dX10_fresh_157 fgX10_64 mm0 rfl ?_
    refine xi_iload_n dX10_fresh_160 rfl ?_
    refine xat 161 rfl ?_
    refine xi_iconst (v := 0) dX10_fresh_161 rfl ?_
    refine xe_iast k dX10_fresh_162 mm13 (by decide) rfl (by omega) ?_
    refine xi_aload_n dX10_fresh_163 rfl ?_
    refine xi_getR dX10_fresh_164 fgX10_67 mm0 rfl ?_
    refine xi_iload_n dX10_fresh_167 rfl ?_
    refine xi_iconst (v := 0) dX10_fresh_168 rfl ?_
    refine xe_iast k dX10_fresh_169 mm14 (by decide) rfl (by omega) ?_
    refine xi_iconst (v := 0) dX10_fresh_170 rfl ?_
    refine xi_istore_n (lv' := [some (.ref 0), some (.int (nI k)), some (.int 0)]) dX10_fresh_171 (by decide) rfl ?_
    generalize eM1 : (xa (xa (xa M 12 (upd (M.2.1 12) k 0)) 13 (upd ((xa M 12 (upd (M.2.1 12) k 0)).2.1 13) k 0)) 14 (upd ((xa (xa M 12 (upd (M.2.1 12) k 0)) 13 (upd ((xa M 12 (upd (M.2.1 12) k 0)).2.1 13) k 0)).2.1 14) k 0)) = M1
    have F1 : (M1.1 = M.1 ∧ (∀ a, ¬ a = 12 → ¬ a = 13 → ¬ a = 14 → M1.2.1 a = M.2.1 a) ∧ ∀ a, ¬ a = 15 → M1.2.2 a = M.2.2 a) := by rw [← eM1]; exact ⟨rfl, fun a a1 a2 a3 => by rw [xa_n a3, xa_n a2, xa_n a1], fun _ _ => rfl⟩
    have e15 : M1.2.2 15 = M.2.2 15 := by rw [← eM1]; rfl
    have y12 : M1.2.1 12 k = nI 0 := by rw [← eM1, xa_n (by decide), xa_n (by decide), xa_s, upd_s]; rfl
    have y13 : M1.2.1 13 k = nI 0 := by rw [← eM1, xa_n (by decide), xa_s, upd_s]; rfl
    have y14 : M1.2.1 14 k = nI 0 := by rw [← eM1, xa_s, upd_s]; rfl
    have o12 : ∀ q, ¬ q = k → M1.2.1 12 q = M.2.1 12 q ∧ M1.2.1 13 q = M.2.1 13 q ∧ M1.2.1 14 q = M.2.1 14 q := fun q e => by rw [← eM1]; exact ⟨by rw [xa_n (by decide), xa_n (by decide), xa_s, upd_n e], by rw [xa_n (by decide), xa_s, upd_n e, xa_n (by decide)], by rw [xa_s, upd_n e, xa_n (by decide), xa_n (by decide)]⟩
    refine f5i (k := k) (by omega) 65 0 M1 (by omega) (fun j hj => by omega) (fun M2 F2 z2 => ?_)
    refine xi_iinc (v := nI (k + 1)) (lv' := [some (.ref 0), some (.int (nI (k + 1))), some (.int (nI 65))]) dX10_fresh_206 rfl (xinc k) (by decide) rfl ?_
    refine xi_goto 143 dX10_fresh_209 (by decide) ?_
    refine xi_drop [true, true, false] rfl ?_
    refine ih (k + 1) M2 (by omega) (fun q hq => ?_) (fun M3 F3 z => h M3 ⟨F3.1.trans (F2.1.trans F1.1), fun a a1 a2 a3 => (F3.2.1 a a1 a2 a3).trans (by rw [F2.2.1]; exact F1.2.1 a a1 a2 a3), fun a ha => (F3.2.2 a ha).trans ((F2.2.2.1 a ha).trans (F1.2.2 a ha))⟩ z)
    by_cases e : q = k
    · rw [e]; exact ⟨z2, by rw [F2.2.1]; exact y12, by rw [F2.2.1]; exact y13, by rw [F2.2.1]; exact y14⟩
    · obtain ⟨m1, m2, m3, m4⟩ := hi q (by omega)
      exact ⟨fun i hi2 => (F2.2.2.2 _ (by omega)).trans ((congrFun e15 _).trans (m1 i hi2)), by rw [F2.2.1]; exact (o12 q e).1.trans m2, by rw [F2.2.1]; exact (o12 q e).2.1.trans m3, by rw [F2.2.1]; exact (o12 q e).2.2.trans m4⟩

set_option maxHeartbeats 4000000 in
set_option maxRecDepth 100000 in
theorem f6 {Q : Option Value → xM → Prop} {a b P : Nat} (ha : 3 ≤ a) (ha2 : a ≤ 10) (hb : 3 ≤ b) (hb2 : b ≤ 10) (hP : 1 ≤ P) (hP2 : P ≤ 4) : ∀ (f p : Nat) (M : xM), p + f = P → M.1 0 1 = nI a → M.1 0 2 = nI b → M.1 0 3 = nI P → FB a b p M → (∀ M2, ((∀ k, ¬ k = 8 → M2.1 0 k = M.1 0 k) ∧ M2.2.2 = M.2.2 ∧ ∀ x, ¬ x = 4 → ¬ x = 5 → M2.2.1 x = M.2.1 x) → FB a b P M2 → Q none M2) → WP shM mX10_fresh 249 [some (.ref 0), some (.int (nI p)), none] [] M Q := by
  have hab : a * b ≤ 10 * 10 := Nat.mul_le_mul ha2 hb2
  have hab2 : 3 * 3 ≤ a * b := Nat.mul_le_mul ha hb
  intro f
  induction f with
  | zero =>
    intro p M hf hwa hhb hPP hI h
    obtain rfl : P = p := by omega
    refine xi_iload_n dX10_fresh_249 rfl ?_
    refine xi_aload_n dX10_fresh_250 rfl ?_
    refine xe_getI (v := nI P) dX10_fresh_251 fgX10_16 mm0 rfl hPP ?_
    refine xn_icmp_ge P P 320 dX10_fresh_254 (by decide) rfl rfl (by omega) (by omega) (fun h254 => ?_) (fun z => absurd z (by omega))
    refine xi_vret dX10_fresh_320 rfl ?_
    exact h M ⟨fun _ _ => rfl, rfl, fun _ _ _ => rfl⟩ hI
  | succ f ih =>
    intro p M hf hwa hhb hPP hI h
    refine xi_iload_n dX10_fresh_249 rfl ?_
    refine xi_aload_n dX10_fresh_250 rfl ?_
    refine xe_getI (v := nI P) dX10_fresh_251 fgX10_16 mm0 rfl hPP ?_
    refine xn_icmp_ge p P 320 dX10_fresh_254 (by decide) rfl rfl (by omega) (by omega) (fun z => absurd z (by omega)) (fun h254 => ?_)
    refine xi_aload_n dX10_fresh_257 rfl ?_
    refine xi_iconst (v := 0) dX10_fresh_258 rfl ?_
    refine xi_iload_n dX10_fresh_259 rfl ?_
    refine xn_if_ne p 267 dX10_fresh_260 (by decide) rfl (by omega) (fun h260 => ?_) (fun h260 => ?_)
    · skip
      refine xi_iload_n dX10_fresh_267 rfl ?_
      refine xi_iconst (v := 1) dX10_fresh_268 rfl ?_
      refine xn_icmp_ne p 1 286 dX10_fresh_269 (by decide) rfl rfl (by omega) (by omega) (fun h269 => ?_) (fun h269 => ?_)
      · skip
        refine xi_iload_n dX10_fresh_286 rfl ?_
        refine xi_iconst (v := 2) dX10_fresh_287 rfl ?_
        refine xn_icmp_ne p 2 300 dX10_fresh_288 (by decide) rfl rfl (by omega) (by omega) (fun h288 => ?_) (fun h288 => ?_)
        · skip
          refine xi_aload_n dX10_fresh_300 rfl ?_
          refine xe_getI (v := nI b) dX10_fresh_301 fgX10_13 mm0 rfl hhb ?_
          refine xi_iconst (v := 1) dX10_fresh_304 rfl ?_
          refine xe_isub dX10_fresh_305 (v := nI (b - 1)) (pk_sub (b := 1) (by omega)) ?_
          refine xi_aload_n dX10_fresh_306 rfl ?_
          refine xe_getI (v := nI a) dX10_fresh_307 fgX10_7 mm0 rfl hwa ?_
          refine xe_imul dX10_fresh_310 (v := nI ((b - 1) * a)) (pk_mul _ _) ?_
          refine xi_callV [.int 0, .int (nI ((b - 1) * a))] [] dX10_fresh_311 zX10_addThing mlX10_133 mm0 rfl rfl rfl rfl rfl (Nat.le_of_ble_eq_true rfl) (Nat.le_of_ble_eq_true rfl) ⟨by decide, by decide⟩ ?_
          have ec : c0 a b p = (b - 1) * a := by unfold c0; first | rw [if_pos h260] | rw [if_neg h260, if_pos h269] | rw [if_neg h260, if_neg h269, if_pos h288] | rw [if_neg h260, if_neg h269, if_neg h288]
          refine n_addT (n := p) (q := 0) (c := nI ((b - 1) * a)) (by omega) (by decide) hI.1 (fun M1 F1 => ?_)
          have F1b : FA p 0 (nI (c0 a b p)) M M1 := by rw [ec]; exact F1
          show WP _ _ 314 _ [] _ _
          refine xi_iinc (v := nI (p + 1)) (lv' := [some (.ref 0), some (.int (nI (p + 1))), none]) dX10_fresh_314 rfl (xinc p) (by decide) rfl ?_
          refine xi_goto 249 dX10_fresh_317 (by decide) ?_
          refine ih (p + 1) M1 (by omega) (by rw [F1.1 1 (by decide)]; exact hwa) (by rw [F1.1 2 (by decide)]; exact hhb) (by rw [F1.1 3 (by decide)]; exact hPP) (hI.step F1b) (fun M2 F2 z => h M2 ⟨fun k hk => (F2.1 k hk).trans (F1.1 k hk), F2.2.1.trans F1.2.2.1, fun x x1 x2 => (F2.2.2 x x1 x2).trans (F1.2.2.2.1 x x1 x2)⟩ z)
        · skip
          refine xi_aload_n dX10_fresh_291 rfl ?_
          refine xe_getI (v := nI a) dX10_fresh_292 fgX10_7 mm0 rfl hwa ?_
          refine xi_iconst (v := 1) dX10_fresh_295 rfl ?_
          refine xe_isub dX10_fresh_296 (v := nI (a - 1)) (pk_sub (b := 1) (by omega)) ?_
          refine xi_goto 311 dX10_fresh_297 (by decide) ?_
          refine xi_callV [.int 0, .int (nI (a - 1))] [] dX10_fresh_311 zX10_addThing mlX10_133 mm0 rfl rfl rfl rfl rfl (Nat.le_of_ble_eq_true rfl) (Nat.le_of_ble_eq_true rfl) ⟨by decide, by decide⟩ ?_
          have ec : c0 a b p = a - 1 := by unfold c0; first | rw [if_pos h260] | rw [if_neg h260, if_pos h269] | rw [if_neg h260, if_neg h269, if_pos h288] | rw [if_neg h260, if_neg h269, if_neg h288]
          refine n_addT (n := p) (q := 0) (c := nI (a - 1)) (by omega) (by decide) hI.1 (fun M1 F1 => ?_)
          have F1b : FA p 0 (nI (c0 a b p)) M M1 := by rw [ec]; exact F1
          show WP _ _ 314 _ [] _ _
          refine xi_iinc (v := nI (p + 1)) (lv' := [some (.ref 0), some (.int (nI (p + 1))), none]) dX10_fresh_314 rfl (xinc p) (by decide) rfl ?_
          refine xi_goto 249 dX10_fresh_317 (by decide) ?_
          refine ih (p + 1) M1 (by omega) (by rw [F1.1 1 (by decide)]; exact hwa) (by rw [F1.1 2 (by decide)]; exact hhb) (by rw [F1.1 3 (by decide)]; exact hPP) (hI.step F1b) (fun M2 F2 z => h M2 ⟨fun k hk => (F2.1 k hk).trans (F1.1 k hk), F2.2.1.trans F1.2.2.1, fun x x1 x2 => (F2.2.2 x x1 x2).trans (F1.2.2.2.1 x x1 x2)⟩ z)
      · skip
        refine xi_aload_n dX10_fresh_272 rfl ?_
        refine xe_getI (v := nI a) dX10_fresh_273 fgX10_7 mm0 rfl hwa ?_
        refine xi_aload_n dX10_fresh_276 rfl ?_
        refine xe_getI (v := nI b) dX10_fresh_277 fgX10_13 mm0 rfl hhb ?_
        refine xe_imul dX10_fresh_280 (v := nI (a * b)) (pk_mul _ _) ?_
        refine xi_iconst (v := 1) dX10_fresh_281 rfl ?_
        refine xe_isub dX10_fresh_282 (v := nI (a * b - 1)) (pk_sub (b := 1) (by omega)) ?_
        refine xi_goto 311 dX10_fresh_283 (by decide) ?_
        refine xi_callV [.int 0, .int (nI (a * b - 1))] [] dX10_fresh_311 zX10_addThing mlX10_133 mm0 rfl rfl rfl rfl rfl (Nat.le_of_ble_eq_true rfl) (Nat.le_of_ble_eq_true rfl) ⟨by decide, by decide⟩ ?_
        have ec : c0 a b p = a * b - 1 := by unfold c0; first | rw [if_pos h260] | rw [if_neg h260, if_pos h269] | rw [if_neg h260, if_neg h269, if_pos h288] | rw [if_neg h260, if_neg h269, if_neg h288]
        refine n_addT (n := p) (q := 0) (c := nI (a * b - 1)) (by omega) (by decide) hI.1 (fun M1 F1 => ?_)
        have F1b : FA p 0 (nI (c0 a b p)) M M1 := by rw [ec]; exact F1
        show WP _ _ 314 _ [] _ _
        refine xi_iinc (v := nI (p + 1)) (lv' := [some (.ref 0), some (.int (nI (p + 1))), none]) dX10_fresh_314 rfl (xinc p) (by decide) rfl ?_
        refine xi_goto 249 dX10_fresh_317 (by decide) ?_
        refine ih (p + 1) M1 (by omega) (by rw [F1.1 1 (by decide)]; exact hwa) (by rw [F1.1 2 (by decide)]; exact hhb) (by rw [F1.1 3 (by decide)]; exact hPP) (hI.step F1b) (fun M2 F2 z => h M2 ⟨fun k hk => (F2.1 k hk).trans (F1.1 k hk), F2.2.1.trans F1.2.2.1, fun x x1 x2 => (F2.2.2 x x1 x2).trans (F1.2.2.2.1 x x1 x2)⟩ z)
    · skip
      refine xi_iconst (v := 0) dX10_fresh_263 rfl ?_
      refine xi_goto 311 dX10_fresh_264 (by decide) ?_
      refine xi_callV [.int 0, .int 0] [] dX10_fresh_311 zX10_addThing mlX10_133 mm0 rfl rfl rfl rfl rfl (Nat.le_of_ble_eq_true rfl) (Nat.le_of_ble_eq_true rfl) ⟨by decide, by decide⟩ ?_
      have ec : c0 a b p = 0 := by unfold c0; first | rw [if_pos h260] | rw [if_neg h260, if_pos h269] | rw [if_neg h260, if_neg h269, if_pos h288] | rw [if_neg h260, if_neg h269, if_neg h288]
      refine n_addT (n := p) (q := 0) (c := 0) (by omega) (by decide) hI.1 (fun M1 F1 => ?_)
      have F1b : FA p 0 (nI (c0 a b p)) M M1 := by rw [ec]; exact F1
      show WP _ _ 314 _ [] _ _
      refine xi_iinc (v := nI (p + 1)) (lv' := [some (.ref 0), some (.int (nI (p + 1))), none]) dX10_fresh_314 rfl (xinc p) (by decide) rfl ?_
      refine xi_goto 249 dX10_fresh_317 (by decide) ?_
      refine ih (p + 1) M1 (by omega) (by rw [F1.1 1 (by decide)]; exact hwa) (by rw [F1.1 2 (by decide)]; exact hhb) (by rw [F1.1 3 (by decide)]; exact hPP) (hI.step F1b) (fun M2 F2 z => h M2 ⟨fun k hk => (F2.1 k hk).trans (F1.1 k hk), F2.2.1.trans F1.2.2.1, fun x x1 x2 => (F2.2.2 x x1 x2).trans (F1.2.2.2.1 x x1 x2)⟩ z)

set_option maxHeartbeats 4000000 in
set_option maxRecDepth 100000 in
theorem n_fresh {M : xM} {a b P : Nat} {tp : Nat → xT} {Q : Option Value → xM → Prop} (ha : 3 ≤ a) (ha2 : a ≤ 10) (hb : 3 ≤ b) (hb2 : b ≤ 10) (hP : 1 ≤ P) (hP2 : P ≤ 4) (hwa : M.1 0 1 = nI a) (hhb : M.1 0 2 = nI b) (hPP : M.1 0 3 = nI P) (hT : NT tp M) (h : ∀ M2, RepM (x0 a b P tp) M2 → Q none M2) : WP shM mX10_fresh 0 [some (.ref 0), none, none] [] M Q := by
  refine xi_iconst (v := 0) dX10_fresh_0 rfl ?_
  refine xi_istore_n (lv' := [some (.ref 0), some (.int 0), none]) dX10_fresh_1 (by decide) rfl ?_
  refine f1 100 0 M (by omega) (fun j hj => by omega) (fun M1 F1 z1 => ?_)
  refine xi_aload_n dX10_fresh_21 rfl ?_
  refine xi_iconst (v := 0) dX10_fresh_22 rfl ?_
  refine xi_put dX10_fresh_23 fpX10_104 mm0 rfl ?_
  refine xi_aload_n dX10_fresh_26 rfl ?_
  refine xi_iconst (v := 0) dX10_fresh_27 rfl ?_
  refine xi_put dX10_fresh_28 fpX10_107 mm0 rfl ?_
  refine xi_aload_n dX10_fresh_31 rfl ?_
  refine xi_iconst (v := 0) dX10_fresh_32 rfl ?_
  refine xi_put dX10_fresh_33 fpX10_110 mm0 rfl ?_
  refine xi_aload_n dX10_fresh_36 rfl ?_
  refine xi_iconst (v := 4) dX10_fresh_37 rfl ?_
  refine xat 38 rfl ?_
  refine xi_put dX10_fresh_38 fpX10_32 mm0 rfl ?_
  refine xi_aload_n dX10_fresh_41 rfl ?_
  refine xi_sipush (v := 1048) dX10_fresh_42 (by decide) ?_
  refine xi_put dX10_fresh_45 fpX10_35 mm0 rfl ?_
  generalize eM2 : (xf (xf (xf (xf (xf M1 0 6 0) 0 8 0) 0 10 0) 0 11 4) 0 12 1048) = M2
  refine xi_iconst (v := 0) dX10_fresh_48 rfl ?_
  refine xi_istore_n (lv' := [some (.ref 0), some (.int 0), none]) dX10_fresh_49 (by decide) rfl ?_
  refine f2 2000 0 M2 (by omega) ⟨fun j hj => by omega, fun j hj => by omega, fun j hj => by omega⟩ (fun M3 F3 z3 => ?_)
  refine xi_iconst (v := 0) dX10_fresh_86 rfl ?_
  refine xi_istore_n (lv' := [some (.ref 0), some (.int 0), none]) dX10_fresh_87 (by decide) rfl ?_
  refine f3 112 0 M3 (by omega) (fun j hj => by omega) (fun M4 F4 z4 => ?_)
  refine xi_iconst (v := 0) dX10_fresh_107 rfl ?_
  refine xi_istore_n (lv' := [some (.ref 0), some (.int 0), none]) dX10_fresh_108 (by decide) rfl ?_
  refine f4 4 0 M4 (by omega) ⟨fun j hj => by omega, fun j hj => by omega, fun j hj => by omega⟩ (fun M5 F5 z5 => ?_)
  refine xi_iconst (v := 0) dX10_fresh_141 rfl ?_
  refine xi_istore_n (lv' := [some (.ref 0), some (.int 0), none]) dX10_fresh_142 (by decide) rfl ?_
  refine f5 8 0 M5 (by omega) (fun q hq => by omega) (fun M6 F6 z6 => ?_)
  refine xi_aload_n dX10_fresh_212 rfl ?_
  refine xi_iconst (v := 0) dX10_fresh_213 rfl ?_
  refine xi_put dX10_fresh_214 fpX10_115 mm0 rfl ?_
  refine xi_aload_n dX10_fresh_217 rfl ?_
  refine xi_iconst (v := 0) dX10_fresh_218 rfl ?_
  refine xi_put dX10_fresh_219 fpX10_118 mm0 rfl ?_
  refine xi_aload_n dX10_fresh_222 rfl ?_
  refine xi_iconst (v := 0) dX10_fresh_223 rfl ?_
  refine xi_put dX10_fresh_224 fpX10_101 mm0 rfl ?_
  refine xi_aload_n dX10_fresh_227 rfl ?_
  refine xi_iconst (v := 0) dX10_fresh_228 rfl ?_
  refine xat 229 rfl ?_
  refine xi_put dX10_fresh_229 fpX10_121 mm0 rfl ?_
  refine xi_aload_n dX10_fresh_232 rfl ?_
  refine xi_iconst (v := 0) dX10_fresh_233 rfl ?_
  refine xi_put dX10_fresh_234 fpX10_124 mm0 rfl ?_
  refine xi_aload_n dX10_fresh_237 rfl ?_
  refine xi_iconst (v := 0) dX10_fresh_238 rfl ?_
  refine xi_put dX10_fresh_239 fpX10_127 mm0 rfl ?_
  refine xi_aload_n dX10_fresh_242 rfl ?_
  refine xi_iconst (v := 0) dX10_fresh_243 rfl ?_
  refine xi_put dX10_fresh_244 fpX10_130 mm0 rfl ?_
  generalize eM7 : (xf (xf (xf (xf (xf (xf (xf M6 0 18 0) 0 19 0) 0 20 0) 0 21 0) 0 22 0) 0 23 0) 0 24 0) = M7
  refine xi_iconst (v := 0) dX10_fresh_247 rfl ?_
  refine xi_istore_n (lv' := [some (.ref 0), some (.int 0), none]) dX10_fresh_248 (by decide) rfl ?_
  have d72 : M6.1 = M2.1 := by rw [F6.1, F5.1, F4.1, F3.1]
  have a7 : M7.2 = M6.2 := by rw [← eM7]; rfl
  have a2 : M2.2 = M1.2 := by rw [← eM2]; rfl
  have q1 : M7.1 0 1 = nI a := by rw [← eM7]; show M6.1 0 1 = _; rw [d72, ← eM2]; show M1.1 0 1 = _; rw [F1.1]; exact hwa
  have q2 : M7.1 0 2 = nI b := by rw [← eM7]; show M6.1 0 2 = _; rw [d72, ← eM2]; show M1.1 0 2 = _; rw [F1.1]; exact hhb
  have q3 : M7.1 0 3 = nI P := by rw [← eM7]; show M6.1 0 3 = _; rw [d72, ← eM2]; show M1.1 0 3 = _; rw [F1.1]; exact hPP
  have q6 : M7.1 0 6 = nI 0 := by rw [← eM7]; show M6.1 0 6 = _; rw [d72, ← eM2]; rfl
  have q8 : M7.1 0 8 = nI 0 := by rw [← eM7]; show M6.1 0 8 = _; rw [d72, ← eM2]; rfl
  have q10 : M7.1 0 10 = nI 0 := by rw [← eM7]; show M6.1 0 10 = _; rw [d72, ← eM2]; rfl
  have q11 : M7.1 0 11 = nI 4 := by rw [← eM7]; show M6.1 0 11 = _; rw [d72, ← eM2]; rfl
  have q12 : M7.1 0 12 = nI 1048 := by rw [← eM7]; show M6.1 0 12 = _; rw [d72, ← eM2]; rfl
  have q18 : M7.1 0 18 = nI 0 := by rw [← eM7]; rfl
  have q19 : M7.1 0 19 = nI 0 := by rw [← eM7]; rfl
  have q20 : M7.1 0 20 = nI 0 := by rw [← eM7]; rfl
  have q21 : M7.1 0 21 = nI 0 := by rw [← eM7]; rfl
  have q22 : M7.1 0 22 = nI 0 := by rw [← eM7]; rfl
  have q23 : M7.1 0 23 = nI 0 := by rw [← eM7]; rfl
  have q24 : M7.1 0 24 = nI 0 := by rw [← eM7]; rfl
  have v1 : ∀ j, j < 100 → M7.2.1 1 j = 0 := by rw [a7, F6.2.1 1 (by decide) (by decide) (by decide), F5.2.2 1 (by decide) (by decide) (by decide), F4.2.2 1 (by decide), F3.2.2 1 (by decide) (by decide) (by decide), a2]; exact z1
  have v6 : ∀ j, j < 2000 → M7.2.1 6 j = 4096 := by rw [a7, F6.2.1 6 (by decide) (by decide) (by decide), F5.2.2 6 (by decide) (by decide) (by decide), F4.2.2 6 (by decide)]; exact z3.1
  have v7 : ∀ j, j < 2000 → M7.2.1 7 j = 0 := by rw [a7, F6.2.1 7 (by decide) (by decide) (by decide), F5.2.2 7 (by decide) (by decide) (by decide), F4.2.2 7 (by decide)]; exact z3.2.1
  have v8 : ∀ j, j < 2000 → M7.2.1 8 j = 0 := by rw [a7, F6.2.1 8 (by decide) (by decide) (by decide), F5.2.2 8 (by decide) (by decide) (by decide), F4.2.2 8 (by decide)]; exact z3.2.2
  have v5 : ∀ j, j < 112 → M7.2.1 5 j = 0 := by rw [a7, F6.2.1 5 (by decide) (by decide) (by decide), F5.2.2 5 (by decide) (by decide) (by decide)]; exact z4
  have v9 : ∀ j, j < 4 → M7.2.1 9 j = 0 := by rw [a7, F6.2.1 9 (by decide) (by decide) (by decide)]; exact z5.1
  have v16 : ∀ j, j < 4 → M7.2.1 16 j = -1 := by rw [a7, F6.2.1 16 (by decide) (by decide) (by decide)]; exact z5.2.1
  have v17 : ∀ j, j < 4 → M7.2.1 17 j = -1 := by rw [a7, F6.2.1 17 (by decide) (by decide) (by decide)]; exact z5.2.2
  have vt : ∀ x, 18 ≤ x → x ≤ 20 → M7.2.1 x = M.2.1 x := fun x x1 x2 => by rw [a7, F6.2.1 x (by omega) (by omega) (by omega), F5.2.2 x (by omega) (by omega) (by omega), F4.2.2 x (by omega), F3.2.2 x (by omega) (by omega) (by omega), a2, F1.2.2 x (by omega)]
  have vj : M7.2.2 21 = M.2.2 21 := by rw [a7, F6.2.2 21 (by decide), F5.2.1, F4.2.1, F3.2.1, a2, F1.2.1]
  refine f6 ha ha2 hb hb2 hP hP2 P 0 M7 (by omega) q1 q2 q3 ⟨q8, fun n hn => by omega, fun n hn => by omega, fun i _ hi => v5 i hi⟩ (fun M8 F8 B8 => ?_)
  have hab : a * b ≤ 10 * 10 := Nat.mul_le_mul ha2 hb2
  have o : ∀ x, 5 < x → M8.2.1 x = M7.2.1 x := fun x hx => F8.2.2 x (by omega) (by omega)
  have p : ∀ k, ¬ k = 8 → M8.1 0 k = M7.1 0 k := F8.1
  refine h M8 (RepM_0.mpr ⟨⟨by rw [p 1 (by decide)]; exact q1, by rw [p 2 (by decide)]; exact q2, by rw [p 3 (by decide)]; exact q3, by rw [p 6 (by decide)]; exact q6, B8.1, fun k hk => ?_, fun k hk hd => ?_, fun d hd => absurd hd (Nat.not_lt_zero _), fun n hn => B8.2.1 n hn⟩, ⟨RM_0 hP2 B8, fun n hn => B8.2.2.2 _ (by omega) (by omega)⟩, fun i hi => ?_, fun i hi => ?_, fun i hi => ?_, ⟨?_, ?_, ?_, ?_, fun i hi => absurd hi (by simp)⟩, fun q hq => ?_, ⟨fun k hk => ?_, fun q hq => ?_, fun q hq => ?_⟩, ?_, ⟨?_, ?_, ?_, ?_, ?_, ?_⟩⟩)
  · change k < a * b at hk
    rw [F8.2.2 1 (by decide) (by decide)]; exact v1 k (by omega)
  · exact absurd hd (by rintro (z | z) <;> exact absurd (show 0 = _ from z) (by decide))
  · rw [o 6 (by decide)]; exact v6 i hi
  · rw [o 7 (by decide)]; exact v7 i hi
  · rw [o 8 (by decide)]; exact v8 i hi
  · rw [p 21 (by decide)]; exact q21
  · rw [p 22 (by decide)]; exact q22
  · rw [p 23 (by decide)]; exact q23
  · rw [p 24 (by decide)]; exact q24
  · rw [o 9 (by decide)]; exact v9 q hq
  · have m6 := z6 k hk
    exact ⟨by rw [F8.2.1, a7]; exact m6.1, by rw [o 12 (by decide), a7]; exact m6.2.1, by rw [o 13 (by decide), a7]; exact m6.2.2.1, by rw [o 14 (by decide), a7]; exact m6.2.2.2⟩
  · rw [o 16 (by decide)]; exact v16 q hq
  · rw [o 17 (by decide)]; exact v17 q hq
  · exact hT.sm (fun x x1 x2 => by rw [o x (by omega)]; exact vt x x1 x2) (by rw [F8.2.1]; exact vj)
  · rw [p 10 (by decide)]; exact q10
  · rw [p 11 (by decide)]; exact q11
  · rw [p 12 (by decide)]; exact q12
  · rw [p 18 (by decide)]; exact q18
  · rw [p 19 (by decide)]; exact q19
  · rw [p 20 (by decide)]; exact q20

set_option maxHeartbeats 4000000 in
set_option maxRecDepth 100000 in
theorem mo_begin {X : xX} {M : xM} {Q : Option Value → xM → Prop} (hX : wX X) (hC : RepM X M) (x0 : Int32) (x1 : Int32) (x2 : Int32) (h : ∀ M2, RepM (st_begin X x0 x1 x2).2 M2 → Q (some (.int (st_begin X x0 x1 x2).1)) M2) : WP shM mX10_begin 0 [some (.ref 0), some (.int x0), some (.int x1), some (.int x2)] [] M Q := by
  obtain ⟨G, S0, now, late, risk, A, L, sq, nl, rf, hr, lg, w, tp⟩ := X
  obtain ⟨hW, hw0, wn, wl, wr, wA_, wsq, wnl, wmo, wtk, wwt, wtp, wO0, wB0⟩ := id hX
  obtain ⟨b1, b2, b3, b4, b5, b6, b7, b8, b9, wmap, wlink, wk0, wk1, b10, b11, wword⟩ := id hW
  have nb : nl ≤ 2000 := by rw [wnl]; exact mcnt_le 2000
  obtain ⟨hG, hNS, hNA, hNL, hNH, hNE, hNQ, hNW, hNT, hNM⟩ := id hC
  obtain ⟨hno, hla, hri, hnl, hrf, hhr⟩ := id hNM
  obtain ⟨s, es⟩ : ∃ s, s = 112 * now := ⟨_, rfl⟩
  have hs : s ≤ 56000 := by omega
  have hS : RM G (Zf G A S0 now) M s := by rw [es]; exact hNS.1 now (Nat.le_refl _)
  have hw : wS G (Zf G A S0 now) := wS_Zf hW hw0 now
  rcases xrg_cases x0 (lo := 3) (hi := 10) (by omega) (by omega) with ⟨ec0, hc0⟩ | ⟨k0, hk0, hl0, rfl, ec0⟩
  · skip
    refine xi_iload_n dX10_begin_0 rfl ?_
    refine xi_iconst (v := 3) dX10_begin_1 rfl ?_
    refine xi_bipush (v := 10) dX10_begin_2 (by decide) ?_
    refine xi_callS [.int x0, .int 3, .int 10] [] dX10_begin_4 zX10_in mlX10_137 rfl rfl rfl (Nat.le_of_ble_eq_true rfl) (Nat.le_of_ble_eq_true rfl) ⟨by decide, by decide⟩ ?_
    refine n_inF (l := 3) (r := 10) hc0 ?_
    show WP _ _ 7 _ [.int (xb false)] _ _
    refine xb_if_eq false 29 dX10_begin_7 (by decide) rfl (fun _ => ?_) (fun z => absurd z (by decide))
    refine xi_iconst (v := (-1)) dX10_begin_29 rfl ?_
    refine xi_iret (v := (-1)) dX10_begin_30 rfl ?_
    have e : st_begin (G, S0, now, late, risk, A, L, sq, nl, rf, hr, lg, w, tp) x0 x1 x2 = (-1, (G, S0, now, late, risk, A, L, sq, nl, rf, hr, lg, w, tp)) := by simp only [st_begin, ec0]
    rw [e] at h
    exact h M hC
  rcases xrg_cases x1 (lo := 3) (hi := 10) (by omega) (by omega) with ⟨ec1, hc1⟩ | ⟨k1, hk1, hl1, rfl, ec1⟩
  · skip
    refine xi_iload_n dX10_begin_0 rfl ?_
    refine xi_iconst (v := 3) dX10_begin_1 rfl ?_
    refine xi_bipush (v := 10) dX10_begin_2 (by decide) ?_
    refine xi_callS [.int (nI k0), .int 3, .int 10] [] dX10_begin_4 zX10_in mlX10_137 rfl rfl rfl (Nat.le_of_ble_eq_true rfl) (Nat.le_of_ble_eq_true rfl) ⟨by decide, by decide⟩ ?_
    refine n_inT (k := k0) (l := 3) (r := 10) (by omega) (by omega) (by omega) ?_
    show WP _ _ 7 _ [.int (xb true)] _ _
    refine xb_if_eq true 29 dX10_begin_7 (by decide) rfl (fun z => absurd z (by decide)) (fun _ => ?_)
    refine xi_iload_n dX10_begin_10 rfl ?_
    refine xi_iconst (v := 3) dX10_begin_11 rfl ?_
    refine xi_bipush (v := 10) dX10_begin_12 (by decide) ?_
    refine xi_callS [.int x1, .int 3, .int 10] [] dX10_begin_14 zX10_in mlX10_137 rfl rfl rfl (Nat.le_of_ble_eq_true rfl) (Nat.le_of_ble_eq_true rfl) ⟨by decide, by decide⟩ ?_
    refine n_inF (l := 3) (r := 10) hc1 ?_
    show WP _ _ 17 _ [.int (xb false)] _ _
    refine xb_if_eq false 29 dX10_begin_17 (by decide) rfl (fun _ => ?_) (fun z => absurd z (by decide))
    refine xi_iconst (v := (-1)) dX10_begin_29 rfl ?_
    refine xi_iret (v := (-1)) dX10_begin_30 rfl ?_
    have e : st_begin (G, S0, now, late, risk, A, L, sq, nl, rf, hr, lg, w, tp) (nI k0) x1 x2 = (-1, (G, S0, now, late, risk, A, L, sq, nl, rf, hr, lg, w, tp)) := by simp only [st_begin, ec0, ec1]
    rw [e] at h
    exact h M hC
  rcases xrg_cases x2 (lo := 1) (hi := 4) (by omega) (by omega) with ⟨ec2, hc2⟩ | ⟨k2, hk2, hl2, rfl, ec2⟩
  · skip
    refine xi_iload_n dX10_begin_0 rfl ?_
    refine xi_iconst (v := 3) dX10_begin_1 rfl ?_
    refine xi_bipush (v := 10) dX10_begin_2 (by decide) ?_
    refine xi_callS [.int (nI k0), .int 3, .int 10] [] dX10_begin_4 zX10_in mlX10_137 rfl rfl rfl (Nat.le_of_ble_eq_true rfl) (Nat.le_of_ble_eq_true rfl) ⟨by decide, by decide⟩ ?_
    refine n_inT (k := k0) (l := 3) (r := 10) (by omega) (by omega) (by omega) ?_
    show WP _ _ 7 _ [.int (xb true)] _ _
    refine xb_if_eq true 29 dX10_begin_7 (by decide) rfl (fun z => absurd z (by decide)) (fun _ => ?_)
    refine xi_iload_n dX10_begin_10 rfl ?_
    refine xi_iconst (v := 3) dX10_begin_11 rfl ?_
    refine xi_bipush (v := 10) dX10_begin_12 (by decide) ?_
    refine xi_callS [.int (nI k1), .int 3, .int 10] [] dX10_begin_14 zX10_in mlX10_137 rfl rfl rfl (Nat.le_of_ble_eq_true rfl) (Nat.le_of_ble_eq_true rfl) ⟨by decide, by decide⟩ ?_
    refine n_inT (k := k1) (l := 3) (r := 10) (by omega) (by omega) (by omega) ?_
    show WP _ _ 17 _ [.int (xb true)] _ _
    refine xb_if_eq true 29 dX10_begin_17 (by decide) rfl (fun z => absurd z (by decide)) (fun _ => ?_)
    refine xi_iload_n dX10_begin_20 rfl ?_
    refine xi_iconst (v := 1) dX10_begin_21 rfl ?_
    refine xi_iconst (v := 4) dX10_begin_22 rfl ?_
    refine xi_callS [.int x2, .int 1, .int 4] [] dX10_begin_23 zX10_in mlX10_137 rfl rfl rfl (Nat.le_of_ble_eq_true rfl) (Nat.le_of_ble_eq_true rfl) ⟨by decide, by decide⟩ ?_
    refine n_inF (l := 1) (r := 4) hc2 ?_
    show WP _ _ 26 _ [.int (xb false)] _ _
    refine xb_if_ne false 31 dX10_begin_26 (by decide) rfl (fun z => absurd z (by decide)) (fun _ => ?_)
    refine xi_iconst (v := (-1)) dX10_begin_29 rfl ?_
    refine xi_iret (v := (-1)) dX10_begin_30 rfl ?_
    have e : st_begin (G, S0, now, late, risk, A, L, sq, nl, rf, hr, lg, w, tp) (nI k0) (nI k1) x2 = (-1, (G, S0, now, late, risk, A, L, sq, nl, rf, hr, lg, w, tp)) := by simp only [st_begin, ec0, ec1, ec2]
    rw [e] at h
    exact h M hC
  refine xi_iload_n dX10_begin_0 rfl ?_
  refine xi_iconst (v := 3) dX10_begin_1 rfl ?_
  refine xi_bipush (v := 10) dX10_begin_2 (by decide) ?_
  refine xi_callS [.int (nI k0), .int 3, .int 10] [] dX10_begin_4 zX10_in mlX10_137 rfl rfl rfl (Nat.le_of_ble_eq_true rfl) (Nat.le_of_ble_eq_true rfl) ⟨by decide, by decide⟩ ?_
  refine n_inT (k := k0) (l := 3) (r := 10) (by omega) (by omega) (by omega) ?_
  show WP _ _ 7 _ [.int (xb true)] _ _
  refine xb_if_eq true 29 dX10_begin_7 (by decide) rfl (fun z => absurd z (by decide)) (fun _ => ?_)
  refine xi_iload_n dX10_begin_10 rfl ?_
  refine xi_iconst (v := 3) dX10_begin_11 rfl ?_
  refine xi_bipush (v := 10) dX10_begin_12 (by decide) ?_
  refine xi_callS [.int (nI k1), .int 3, .int 10] [] dX10_begin_14 zX10_in mlX10_137 rfl rfl rfl (Nat.le_of_ble_eq_true rfl) (Nat.le_of_ble_eq_true rfl) ⟨by decide, by decide⟩ ?_
  refine n_inT (k := k1) (l := 3) (r := 10) (by omega) (by omega) (by omega) ?_
  show WP _ _ 17 _ [.int (xb true)] _ _
  refine xb_if_eq true 29 dX10_begin_17 (by decide) rfl (fun z => absurd z (by decide)) (fun _ => ?_)
  refine xi_iload_n dX10_begin_20 rfl ?_
  refine xi_iconst (v := 1) dX10_begin_21 rfl ?_
  refine xi_iconst (v := 4) dX10_begin_22 rfl ?_
  refine xi_callS [.int (nI k2), .int 1, .int 4] [] dX10_begin_23 zX10_in mlX10_137 rfl rfl rfl (Nat.le_of_ble_eq_true rfl) (Nat.le_of_ble_eq_true rfl) ⟨by decide, by decide⟩ ?_
  refine n_inT (k := k2) (l := 1) (r := 4) (by omega) (by omega) (by omega) ?_
  show WP _ _ 26 _ [.int (xb true)] _ _
  refine xb_if_ne true 31 dX10_begin_26 (by decide) rfl (fun _ => ?_) (fun z => absurd z (by decide))
  refine xi_aload_n dX10_begin_31 rfl ?_
  refine xi_iload_n dX10_begin_32 rfl ?_
  refine xi_put dX10_begin_33 fpX10_7 mm0 rfl ?_
  refine xi_aload_n dX10_begin_36 rfl ?_
  refine xi_iload_n dX10_begin_37 rfl ?_
  refine xi_put dX10_begin_38 fpX10_13 mm0 rfl ?_
  refine xi_aload_n dX10_begin_41 rfl ?_
  refine xi_iload_n dX10_begin_42 rfl ?_
  refine xi_put dX10_begin_43 fpX10_16 mm0 rfl ?_
  refine xi_aload_n dX10_begin_46 rfl ?_
  refine xat 47 rfl ?_
  refine xi_callV [] [] dX10_begin_47 zX10_fresh mlX10_95 mm0 rfl rfl rfl rfl rfl (Nat.le_of_ble_eq_true rfl) (Nat.le_of_ble_eq_true rfl) ⟨by decide, by decide⟩ ?_
  refine n_fresh hk0 hl0 hk1 hl1 hk2 hl2 rfl rfl rfl (show NT tp _ from hNT) (fun M1 hC1 => ?_)
  show WP _ _ 50 _ [] _ _
  refine xi_iload_n dX10_begin_50 rfl ?_
  refine xi_iload_n dX10_begin_51 rfl ?_
  refine xe_imul dX10_begin_52 (v := nI (k0 * k1)) (pk_mul k0 k1) ?_
  refine xi_iret (v := nI (k0 * k1)) dX10_begin_53 rfl ?_
  simp only [st_begin, ec0, ec1, ec2] at h
  exact h M1 hC1

