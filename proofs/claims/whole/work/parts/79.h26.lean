def FB (a b p : Nat) (M : xM) : Prop := M.1 0 8 = nI p ∧ (∀ n, n < p → M.2.1 4 n = nI 0) ∧ (∀ n, n < p → M.2.1 5 (6 * n + 0) = nI (c0 a b n) ∧ M.2.1 5 (6 * n + 1) = nI 5 ∧ M.2.1 5 (6 * n + 2) = 1 ∧ M.2.1 5 (6 * n + 3) = nI 0 ∧ M.2.1 5 (6 * n + 4) = xo none ∧ M.2.1 5 (6 * n + 5) = xo none) ∧ ∀ i, 6 * p ≤ i → i < 112 → M.2.1 5 i = 0
theorem FB.step {a b p : Nat} {M M2 : xM} (h : FB a b p M) (f : FA p 0 (nI (c0 a b p)) M M2) : FB a b (p + 1) M2 := by
  obtain ⟨h1, h2, h3, h4⟩ := h
  obtain ⟨f1, f2, f3, f4, f5, c0_, c1, c2, c3, c4, c5, fo⟩ := f
  refine ⟨f2, fun n hn => ?_, fun n hn => ?_, fun i q1 q2 => ?_⟩
  · rw [f5]
    by_cases e : n = p
    · rw [e, upd_s]
    · rw [upd_n e]; exact h2 n (by omega)
  · by_cases e : n = p
    · rw [e]; exact ⟨c0_, c1, c2, c3, c4, c5⟩
    · obtain ⟨m0, m1, m2, m3, m4, m5⟩ := h3 n (by omega)
      exact ⟨(fo _ (by omega)).trans m0, (fo _ (by omega)).trans m1, (fo _ (by omega)).trans m2, (fo _ (by omega)).trans m3, (fo _ (by omega)).trans m4, (fo _ (by omega)).trans m5⟩
  · rw [fo _ (by omega)]; exact h4 i (by omega) q2
set_option maxHeartbeats 4000000 in
set_option maxRecDepth 100000 in
theorem f1 {Q : Option Value → xM → Prop} : ∀ (f k : Nat) (M : xM), k + f = 100 → ((∀ j, j < k → M.2.1 1 j = 0)) → (∀ M2, (M2.1 = M.1 ∧ M2.2.2 = M.2.2 ∧ ∀ a, ¬ a = 1 → M2.2.1 a = M.2.1 a) → ((∀ j, j < 100 → M2.2.1 1 j = 0)) → WP shM mX10_fresh 21 [some (.ref 0), some (.int (nI 100)), none] [] M2 Q) → WP shM mX10_fresh 2 [some (.ref 0), some (.int (nI k)), none] [] M Q := by
  intro f
  induction f with
  | zero =>
    intro k M hf hi h
    refine xi_iload_n dX10_fresh_2 rfl ?_
    refine xi_bipush (v := 100) dX10_fresh_3 (by decide) ?_
    refine xn_icmp_ge k 100 21 dX10_fresh_5 (by decide) rfl rfl (by omega) (by omega) (fun h5 => ?_) (fun z => absurd z (by omega))
    obtain rfl : k = 100 := by omega
    exact h M ⟨rfl, rfl, fun _ _ => rfl⟩ hi
  | succ f ih =>
    intro k M hf hi h
    refine xi_iload_n dX10_fresh_2 rfl ?_
    refine xi_bipush (v := 100) dX10_fresh_3 (by decide) ?_
    refine xn_icmp_ge k 100 21 dX10_fresh_5 (by decide) rfl rfl (by omega) (by omega) (fun z => absurd z (by omega)) (fun h5 => ?_)
    refine xi_aload_n dX10_fresh_8 rfl ?_
    refine xi_getR dX10_fresh_9 fgX10_19 mm0 rfl ?_
    refine xi_iload_n dX10_fresh_12 rfl ?_
    refine xi_iconst (v := 0) dX10_fresh_13 rfl ?_
    refine xe_iast k dX10_fresh_14 mm1 (by decide) rfl (by omega) ?_
    refine xi_iinc (v := nI (k + 1)) (lv' := [some (.ref 0), some (.int (nI (k + 1))), none]) dX10_fresh_15 rfl (xinc k) (by decide) rfl ?_
    refine xi_goto 2 dX10_fresh_18 (by decide) ?_
    generalize eM1 : (xa M 1 (upd (M.2.1 1) k 0)) = M1
    have F1 : (M1.1 = M.1 ∧ M1.2.2 = M.2.2 ∧ ∀ a, ¬ a = 1 → M1.2.1 a = M.2.1 a) := by rw [← eM1]; exact ⟨rfl, rfl, fun a a1 => by rw [xa_n a1]⟩
    have v1 : ∀ j, j < k + 1 → M1.2.1 1 j = 0 := by
      intro j hj
      rw [← eM1, xa_s]
      by_cases e : j = k
      · rw [e, upd_s]
      · rw [upd_n e]; exact hi j (by omega)
    exact ih (k + 1) M1 (by omega) v1 (fun M2 F2 z => h M2 ⟨F2.1.trans F1.1, F2.2.1.trans F1.2.1, fun a a1 => (F2.2.2 a a1).trans (F1.2.2 a a1)⟩ z)

set_option maxHeartbeats 4000000 in
set_option maxRecDepth 100000 in
theorem f2 {Q : Option Value → xM → Prop} : ∀ (f k : Nat) (M : xM), k + f = 2000 → ((∀ j, j < k → M.2.1 6 j = 4096) ∧ (∀ j, j < k → M.2.1 7 j = 0) ∧ (∀ j, j < k → M.2.1 8 j = 0)) → (∀ M2, (M2.1 = M.1 ∧ M2.2.2 = M.2.2 ∧ ∀ a, ¬ a = 6 → ¬ a = 7 → ¬ a = 8 → M2.2.1 a = M.2.1 a) → ((∀ j, j < 2000 → M2.2.1 6 j = 4096) ∧ (∀ j, j < 2000 → M2.2.1 7 j = 0) ∧ (∀ j, j < 2000 → M2.2.1 8 j = 0)) → WP shM mX10_fresh 86 [some (.ref 0), some (.int (nI 2000)), none] [] M2 Q) → WP shM mX10_fresh 50 [some (.ref 0), some (.int (nI k)), none] [] M Q := by
  intro f
  induction f with
  | zero =>
    intro k M hf hi h
    refine xi_iload_n dX10_fresh_50 rfl ?_
    refine xi_sipush (v := 2000) dX10_fresh_51 (by decide) ?_
    refine xn_icmp_ge k 2000 86 dX10_fresh_54 (by decide) rfl rfl (by omega) (by omega) (fun h54 => ?_) (fun z => absurd z (by omega))
    obtain rfl : k = 2000 := by omega
    exact h M ⟨rfl, rfl, fun _ _ _ _ => rfl⟩ hi
  | succ f ih =>
    intro k M hf hi h
    refine xi_iload_n dX10_fresh_50 rfl ?_
    refine xi_sipush (v := 2000) dX10_fresh_51 (by decide) ?_
    refine xn_icmp_ge k 2000 86 dX10_fresh_54 (by decide) rfl rfl (by omega) (by omega) (fun z => absurd z (by omega)) (fun h54 => ?_)
    refine xi_aload_n dX10_fresh_57 rfl ?_
    refine xi_getR dX10_fresh_58 fgX10_42 mm0 rfl ?_
    refine xi_iload_n dX10_fresh_61 rfl ?_
    refine xi_sipush (v := 4096) dX10_fresh_62 (by decide) ?_
    refine xe_iast k dX10_fresh_65 mm6 (by decide) rfl (by omega) ?_
    refine xi_aload_n dX10_fresh_66 rfl ?_
    refine xi_getR dX10_fresh_67 fgX10_45 mm0 rfl ?_
    refine xi_iload_n dX10_fresh_70 rfl ?_
    refine xat 71 rfl ?_
    refine xi_iconst (v := 0) dX10_fresh_71 rfl ?_
    refine xe_zast (v := 0) k dX10_fresh_72 mm7 (by decide) rfl (by omega) (by decide) ?_
    refine xi_aload_n dX10_fresh_73 rfl ?_
    refine xi_getR dX10_fresh_74 fgX10_49 mm0 rfl ?_
    refine xi_iload_n dX10_fresh_77 rfl ?_
    refine xi_iconst (v := 0) dX10_fresh_78 rfl ?_
    refine xe_iast k dX10_fresh_79 mm8 (by decide) rfl (by omega) ?_
    refine xi_iinc (v := nI (k + 1)) (lv' := [some (.ref 0), some (.int (nI (k + 1))), none]) dX10_fresh_80 rfl (xinc k) (by decide) rfl ?_
    refine xi_goto 50 dX10_fresh_83 (by decide) ?_
    generalize eM1 : (xa (xa (xa M 6 (upd (M.2.1 6) k 4096)) 7 (upd ((xa M 6 (upd (M.2.1 6) k 4096)).2.1 7) k 0)) 8 (upd ((xa (xa M 6 (upd (M.2.1 6) k 4096)) 7 (upd ((xa M 6 (upd (M.2.1 6) k 4096)).2.1 7) k 0)).2.1 8) k 0)) = M1
    have F1 : (M1.1 = M.1 ∧ M1.2.2 = M.2.2 ∧ ∀ a, ¬ a = 6 → ¬ a = 7 → ¬ a = 8 → M1.2.1 a = M.2.1 a) := by rw [← eM1]; exact ⟨rfl, rfl, fun a a6 a7 a8 => by rw [xa_n a8, xa_n a7, xa_n a6]⟩
    have v6 : ∀ j, j < k + 1 → M1.2.1 6 j = 4096 := by
      intro j hj
      rw [← eM1, xa_n (by decide), xa_n (by decide), xa_s]
      by_cases e : j = k
      · rw [e, upd_s]
      · rw [upd_n e]; exact hi.1 j (by omega)
    have v7 : ∀ j, j < k + 1 → M1.2.1 7 j = 0 := by
      intro j hj
      rw [← eM1, xa_n (by decide), xa_s, xa_n (by decide)]
      by_cases e : j = k
      · rw [e, upd_s]
      · rw [upd_n e]; exact hi.2.1 j (by omega)
    have v8 : ∀ j, j < k + 1 → M1.2.1 8 j = 0 := by
      intro j hj
      rw [← eM1, xa_s, xa_n (by decide), xa_n (by decide)]
      by_cases e : j = k
      · rw [e, upd_s]
      · rw [upd_n e]; exact hi.2.2 j (by omega)
    exact ih (k + 1) M1 (by omega) ⟨v6, v7, v8⟩ (fun M2 F2 z => h M2 ⟨F2.1.trans F1.1, F2.2.1.trans F1.2.1, fun a a6 a7 a8 => (F2.2.2 a a6 a7 a8).trans (F1.2.2 a a6 a7 a8)⟩ z)

set_option maxHeartbeats 4000000 in
set_option maxRecDepth 100000 in
theorem f3 {Q : Option Value → xM → Prop} : ∀ (f k : Nat) (M : xM), k + f = 112 → ((∀ j, j < k → M.2.1 5 j = 0)) → (∀ M2, (M2.1 = M.1 ∧ M2.2.2 = M.2.2 ∧ ∀ a, ¬ a = 5 → M2.2.1 a = M.2.1 a) → ((∀ j, j < 112 → M2.2.1 5 j = 0)) → WP shM mX10_fresh 107 [some (.ref 0), some (.int (nI 112)), none] [] M2 Q) → WP shM mX10_fresh 88 [some (.ref 0), some (.int (nI k)), none] [] M Q := by
  intro f
  induction f with
  | zero =>
    intro k M hf hi h
    refine xi_iload_n dX10_fresh_88 rfl ?_
    refine xi_bipush (v := 112) dX10_fresh_89 (by decide) ?_
    refine xn_icmp_ge k 112 107 dX10_fresh_91 (by decide) rfl rfl (by omega) (by omega) (fun h91 => ?_) (fun z => absurd z (by omega))
    obtain rfl : k = 112 := by omega
    exact h M ⟨rfl, rfl, fun _ _ => rfl⟩ hi
  | succ f ih =>
    intro k M hf hi h
    refine xi_iload_n dX10_fresh_88 rfl ?_
    refine xi_bipush (v := 112) dX10_fresh_89 (by decide) ?_
    refine xn_icmp_ge k 112 107 dX10_fresh_91 (by decide) rfl rfl (by omega) (by omega) (fun z => absurd z (by omega)) (fun h91 => ?_)
    refine xi_aload_n dX10_fresh_94 rfl ?_
    refine xi_getR dX10_fresh_95 fgX10_39 mm0 rfl ?_
    refine xi_iload_n dX10_fresh_98 rfl ?_
    refine xi_iconst (v := 0) dX10_fresh_99 rfl ?_
    refine xe_iast k dX10_fresh_100 mm5 (by decide) rfl (by omega) ?_
    refine xi_iinc (v := nI (k + 1)) (lv' := [some (.ref 0), some (.int (nI (k + 1))), none]) dX10_fresh_101 rfl (xinc k) (by decide) rfl ?_
    refine xi_goto 88 dX10_fresh_104 (by decide) ?_
    generalize eM1 : (xa M 5 (upd (M.2.1 5) k 0)) = M1
    have F1 : (M1.1 = M.1 ∧ M1.2.2 = M.2.2 ∧ ∀ a, ¬ a = 5 → M1.2.1 a = M.2.1 a) := by rw [← eM1]; exact ⟨rfl, rfl, fun a a5 => by rw [xa_n a5]⟩
    have v5 : ∀ j, j < k + 1 → M1.2.1 5 j = 0 := by
      intro j hj
      rw [← eM1, xa_s]
      by_cases e : j = k
      · rw [e, upd_s]
      · rw [upd_n e]; exact hi j (by omega)
    exact ih (k + 1) M1 (by omega) v5 (fun M2 F2 z => h M2 ⟨F2.1.trans F1.1, F2.2.1.trans F1.2.1, fun a a5 => (F2.2.2 a a5).trans (F1.2.2 a a5)⟩ z)

set_option maxHeartbeats 4000000 in
set_option maxRecDepth 100000 in
theorem f4 {Q : Option Value → xM → Prop} : ∀ (f k : Nat) (M : xM), k + f = 4 → ((∀ j, j < k → M.2.1 9 j = 0) ∧ (∀ j, j < k → M.2.1 16 j = (-1)) ∧ (∀ j, j < k → M.2.1 17 j = (-1))) → (∀ M2, (M2.1 = M.1 ∧ M2.2.2 = M.2.2 ∧ ∀ a, ¬ a = 9 → ¬ a = 16 → ¬ a = 17 → M2.2.1 a = M.2.1 a) → ((∀ j, j < 4 → M2.2.1 9 j = 0) ∧ (∀ j, j < 4 → M2.2.1 16 j = (-1)) ∧ (∀ j, j < 4 → M2.2.1 17 j = (-1))) → WP shM mX10_fresh 141 [some (.ref 0), some (.int (nI 4)), none] [] M2 Q) → WP shM mX10_fresh 109 [some (.ref 0), some (.int (nI k)), none] [] M Q := by
  intro f
  induction f with
  | zero =>
    intro k M hf hi h
    refine xi_iload_n dX10_fresh_109 rfl ?_
    refine xi_iconst (v := 4) dX10_fresh_110 rfl ?_
    refine xn_icmp_ge k 4 141 dX10_fresh_111 (by decide) rfl rfl (by omega) (by omega) (fun h111 => ?_) (fun z => absurd z (by omega))
    obtain rfl : k = 4 := by omega
    exact h M ⟨rfl, rfl, fun _ _ _ _ => rfl⟩ hi
  | succ f ih =>
    intro k M hf hi h
    refine xi_iload_n dX10_fresh_109 rfl ?_
    refine xi_iconst (v := 4) dX10_fresh_110 rfl ?_
    refine xn_icmp_ge k 4 141 dX10_fresh_111 (by decide) rfl rfl (by omega) (by omega) (fun z => absurd z (by omega)) (fun h111 => ?_)
    refine xi_aload_n dX10_fresh_114 rfl ?_
    refine xi_getR dX10_fresh_115 fgX10_52 mm0 rfl ?_
    refine xi_iload_n dX10_fresh_118 rfl ?_
    refine xi_iconst (v := 0) dX10_fresh_119 rfl ?_
    refine xe_iast k dX10_fresh_120 mm9 (by decide) rfl (by omega) ?_
    refine xi_aload_n dX10_fresh_121 rfl ?_
    refine xi_getR dX10_fresh_122 fgX10_74 mm0 rfl ?_
    refine xi_iload_n dX10_fresh_125 rfl ?_
    refine xat 126 rfl ?_
    refine xi_iconst (v := (-1)) dX10_fresh_126 rfl ?_
    refine xe_iast k dX10_fresh_127 mm16 (by decide) rfl (by omega) ?_
    refine xi_aload_n dX10_fresh_128 rfl ?_
    refine xi_getR dX10_fresh_129 fgX10_77 mm0 rfl ?_
    refine xi_iload_n dX10_fresh_132 rfl ?_
    refine xi_iconst (v := (-1)) dX10_fresh_133 rfl ?_
    refine xe_iast k dX10_fresh_134 mm17 (by decide) rfl (by omega) ?_
    refine xi_iinc (v := nI (k + 1)) (lv' := [some (.ref 0), some (.int (nI (k + 1))), none]) dX10_fresh_135 rfl (xinc k) (by decide) rfl ?_
    refine xi_goto 109 dX10_fresh_138 (by decide) ?_
    generalize eM1 : (xa (xa (xa M 9 (upd (M.2.1 9) k 0)) 16 (upd ((xa M 9 (upd (M.2.1 9) k 0)).2.1 16) k (-1))) 17 (upd ((xa (xa M 9 (upd (M.2.1 9) k 0)) 16 (upd ((xa M 9 (upd (M.2.1 9) k 0)).2.1 16) k (-1))).2.1 17) k (-1))) = M1
    have F1 : (M1.1 = M.1 ∧ M1.2.2 = M.2.2 ∧ ∀ a, ¬ a = 9 → ¬ a = 16 → ¬ a = 17 → M1.2.1 a = M.2.1 a) := by rw [← eM1]; exact ⟨rfl, rfl, fun a a9 a16 a17 => by rw [xa_n a17, xa_n a16, xa_n a9]⟩
    have v9 : ∀ j, j < k + 1 → M1.2.1 9 j = 0 := by
      intro j hj
      rw [← eM1, xa_n (by decide), xa_n (by decide), xa_s]
      by_cases e : j = k
      · rw [e, upd_s]
      · rw [upd_n e]; exact hi.1 j (by omega)
    have v16 : ∀ j, j < k + 1 → M1.2.1 16 j = (-1) := by
      intro j hj
      rw [← eM1, xa_n (by decide), xa_s, xa_n (by decide)]
      by_cases e : j = k
      · rw [e, upd_s]
      · rw [upd_n e]; exact hi.2.1 j (by omega)
    have v17 : ∀ j, j < k + 1 → M1.2.1 17 j = (-1) := by
      intro j hj
      rw [← eM1, xa_s, xa_n (by decide), xa_n (by decide)]
      by_cases e : j = k
      · rw [e, upd_s]
      · rw [upd_n e]; exact hi.2.2 j (by omega)
    exact ih (k + 1) M1 (by omega) ⟨v9, v16, v17⟩ (fun M2 F2 z => h M2 ⟨F2.1.trans F1.1, F2.2.1.trans F1.2.1, fun a a9 a16 a17 => (F2.2.2 a a9 a16 a17).trans (F1.2.2 a a9 a16 a17)⟩ z)

set_option maxHeartbeats 4000000 in
set_option maxRecDepth 100000 in
theorem f5i {Q : Option Value → xM → Prop} {k : Nat} (hk : k < 8) : ∀ (f i : Nat) (M : xM), i + f = 65 → (∀ j, j < i → M.2.2 15 (65 * k + j) = nJ (if j = 0 then 1048576 else 0)) → (∀ M2, (M2.1 = M.1 ∧ M2.2.1 = M.2.1 ∧ (∀ a, ¬ a = 15 → M2.2.2 a = M.2.2 a) ∧ ∀ j, (j < 65 * k ∨ 65 * k + 65 ≤ j) → M2.2.2 15 j = M.2.2 15 j) → (∀ j, j < 65 → M2.2.2 15 (65 * k + j) = nJ (if j = 0 then 1048576 else 0)) → WP shM mX10_fresh 206 [some (.ref 0), some (.int (nI k)), some (.int (nI 65))] [] M2 Q) → WP shM mX10_fresh 172 [some (.ref 0), some (.int (nI k)), some (.int (nI i))] [] M Q := by
  intro f
  induction f with
  | zero =>
    intro i M hf hi h
    refine xi_iload_n dX10_fresh_172 rfl ?_
    refine xi_bipush (v := 65) dX10_fresh_173 (by decide) ?_
    refine xn_icmp_ge i 65 206 dX10_fresh_175 (by decide) rfl rfl (by omega) (by omega) (fun h175 => ?_) (fun z => absurd z (by omega))
    obtain rfl : i = 65 := by omega
    exact h M ⟨rfl, rfl, fun _ _ => rfl, fun _ _ => rfl⟩ hi
  | succ f ih =>
    intro i M hf hi h
    refine xi_iload_n dX10_fresh_172 rfl ?_
    refine xi_bipush (v := 65) dX10_fresh_173 (by decide) ?_
    refine xn_icmp_ge i 65 206 dX10_fresh_175 (by decide) rfl rfl (by omega) (by omega) (fun z => absurd z (by omega)) (fun h175 => ?_)
    refine xi_aload_n dX10_fresh_178 rfl ?_
    refine xi_getR dX10_fresh_179 fgX10_70 mm0 rfl ?_
    refine xi_bipush (v := 65) dX10_fresh_182 (by decide) ?_
    refine xi_iload_n dX10_fresh_184 rfl ?_
    refine xe_imul dX10_fresh_185 (v := nI (65 * k)) (pk_mul 65 k) ?_
    refine xi_iload_n dX10_fresh_186 rfl ?_
    refine xe_iadd dX10_fresh_187 (v := nI (65 * k + i)) (nI_add (65 * k) i) ?_
    refine xi_iload_n dX10_fresh_188 rfl ?_
    refine xat 189 rfl ?_
    refine xn_if_ne i 198 dX10_fresh_189 (by decide) rfl (by omega) (fun h189 => ?_) (fun h189 => ?_)
    · skip
      refine xi_lconst (v := 0) dX10_fresh_198 rfl ?_
      refine xe_last (65 * k + i) dX10_fresh_199 mm15 (by decide) rfl (by omega) ?_
      refine xi_iinc (v := nI (i + 1)) (lv' := [some (.ref 0), some (.int (nI k)), some (.int (nI (i + 1)))]) dX10_fresh_200 rfl (xinc i) (by decide) rfl ?_
      refine xi_goto 172 dX10_fresh_203 (by decide) ?_
      generalize eM1 : (xj M 15 (vp_updL (M.2.2 15) (65 * k + i) 0)) = M1
      have F1 : (M1.1 = M.1 ∧ M1.2.1 = M.2.1 ∧ (∀ a, ¬ a = 15 → M1.2.2 a = M.2.2 a) ∧ ∀ j, (j < 65 * k ∨ 65 * k + 65 ≤ j) → M1.2.2 15 j = M.2.2 15 j) := by rw [← eM1]; exact ⟨rfl, rfl, fun a ha => xj_n ha, fun j hj => by rw [xj_s, updL_n (by omega)]⟩
      have v1 : ∀ j, j < i + 1 → M1.2.2 15 (65 * k + j) = nJ (if j = 0 then 1048576 else 0) := by
        intro j hj
        rw [← eM1, xj_s]
        by_cases e : j = i
        · rw [e, updL_s]; first | (rw [if_pos h189]; rfl) | (rw [if_neg h189]; rfl)
        · rw [updL_n (by omega)]; exact hi j (by omega)
      exact ih (i + 1) M1 (by omega) v1 (fun M2 F2 z => h M2 ⟨F2.1.trans F1.1, F2.2.1.trans F1.2.1, fun a ha => (F2.2.2.1 a ha).trans (F1.2.2.1 a ha), fun j hj => (F2.2.2.2 j hj).trans (F1.2.2.2 j hj)⟩ z)
    · skip
      refine xi_ldc2 (v := 1048576) dX10_fresh_192 kcX10_113 ?_
      refine xi_goto 199 dX10_fresh_195 (by decide) ?_
      refine xe_last (65 * k + i) dX10_fresh_199 mm15 (by decide) rfl (by omega) ?_
      refine xi_iinc (v := nI (i + 1)) (lv' := [some (.ref 0), some (.int (nI k)), some (.int (nI (i + 1)))]) dX10_fresh_200 rfl (xinc i) (by decide) rfl ?_
      refine xi_goto 172 dX10_fresh_203 (by decide) ?_
      generalize eM1 : (xj M 15 (vp_updL (M.2.2 15) (65 * k + i) 1048576)) = M1
      have F1 : (M1.1 = M.1 ∧ M1.2.1 = M.2.1 ∧ (∀ a, ¬ a = 15 → M1.2.2 a = M.2.2 a) ∧ ∀ j, (j < 65 * k ∨ 65 * k + 65 ≤ j) → M1.2.2 15 j = M.2.2 15 j) := by rw [← eM1]; exact ⟨rfl, rfl, fun a ha => xj_n ha, fun j hj => by rw [xj_s, updL_n (by omega)]⟩
      have v1 : ∀ j, j < i + 1 → M1.2.2 15 (65 * k + j) = nJ (if j = 0 then 1048576 else 0) := by
        intro j hj
        rw [← eM1, xj_s]
        by_cases e : j = i
        · rw [e, updL_s]; first | (rw [if_pos h189]; rfl) | (rw [if_neg h189]; rfl)
        · rw [updL_n (by omega)]; exact hi j (by omega)
      exact ih (i + 1) M1 (by omega) v1 (fun M2 F2 z => h M2 ⟨F2.1.trans F1.1, F2.2.1.trans F1.2.1, fun a ha => (F2.2.2.1 a ha).trans (F1.2.2.1 a ha), fun j hj => (F2.2.2.2 j hj).trans (F1.2.2.2 j hj)⟩ z)

set_option maxHeartbeats 4000000 in
set_option maxRecDepth 100000 in
theorem f5 {Q : Option Value → xM → Prop} : ∀ (f k : Nat) (M : xM), k + f = 8 → (∀ q, q < k → MO o0 M q) → (∀ M2, (M2.1 = M.1 ∧ (∀ a, ¬ a = 12 → ¬ a = 13 → ¬ a = 14 → M2.2.1 a = M.2.1 a) ∧ ∀ a, ¬ a = 15 → M2.2.2 a = M.2.2 a) → (∀ q, q < 8 → MO o0 M2 q) → WP shM mX10_fresh 212 [some (.ref 0), some (.int (nI 8)), none] [] M2 Q) → WP shM mX10_fresh 143 [some (.ref 0), some (.int (nI k)), none] [] M Q := by
  intro f
  induction f with
  | zero =>
    intro k M hf hi h
    refine xi_iload_n dX10_fresh_143 rfl ?_
    refine xi_bipush (v := 8) dX10_fresh_144 (by decide) ?_
    refine xn_icmp_ge k 8 212 dX10_fresh_146 (by decide) rfl rfl (by omega) (by omega) (fun h146 => ?_) (fun z => absurd z (by omega))
    obtain rfl : k = 8 := by omega
    exact h M ⟨rfl, fun _ _ _ _ => rfl, fun _ _ => rfl⟩ hi
  | succ f ih =>
    intro k M hf hi h
    refine xi_iload_n dX10_fresh_143 rfl ?_
    refine xi_bipush (v := 8) dX10_fresh_144 (by decide) ?_
    refine xn_icmp_ge k 8 212 dX10_fresh_146 (by decide) rfl rfl (by omega) (by omega) (fun z => absurd z (by omega)) (fun h146 => ?_)
    refine xi_aload_n dX10_fresh_149 rfl ?_
    refine xi_getR dX10_fresh_150 fgX10_61 mm0 rfl ?_
    refine xi_iload_n dX10_fresh_153 rfl ?_
    refine xi_iconst (v := 0) dX10_fresh_154 rfl ?_
    refine xe_iast k dX10_fresh_155 mm12 (by decide) rfl (by omega) ?_
    refine xi_aload_n dX10_fresh_156 rfl ?_
    refine xi_getR dX10_fresh_157 fgX10_64 mm0 rfl ?_
    refine xi_iload_n dX10_fresh_160 rfl ?_
    refine xat 161 rfl ?_
    refine xi_iconst (v := 0) dX10_fresh_161 rfl ?_
    refine xe_iast k dX10_fresh_162 mm13 (by decide) rfl (by omega) ?_
    refine xi_aload_n dX10_fresh_163 rfl ?_
    refine xi_getR dX10_fresh_164 fgX10_67 mm0 rfl ?_
    refine xi_iload_n dX10_fresh_167 rfl ?_
    refine xi_iconst (v := 0) dX10_fresh_168 rfl ?_
    refine xe_iast k dX10_fresh_169 mm14 (by decide) rfl (by omega) ?_
    refine xi_iconst (v := 0) dX10_fresh_170 rfl ?_
    refine xi_istore_n (lv' := [some (.ref 0), some (.int (nI k)), some (.int 0)]) dX10_fresh_171 (by decide) rfl ?_
    generalize eM1 : (xa (xa (xa M 12 (upd (M.2.1 12) k 0)) 13 (upd ((xa M 12 (upd (M.2.1 12) k 0)).2.1 13) k 0)) 14 (upd ((xa (xa M 12 (upd (M.2.1 12) k 0)) 13 (upd ((xa M 12 (upd (M.2.1 12) k 0)).2.1 13) k 0)).2.1 14) k 0)) = M1
    have F1 : (M1.1 = M.1 ∧ (∀ a, ¬ a = 12 → ¬ a = 13 → ¬ a = 14 → M1.2.1 a = M.2.1 a) ∧ ∀ a, ¬ a = 15 → M1.2.2 a = M.2.2 a) := by rw [← eM1]; exact ⟨rfl, fun a a1 a2 a3 => by rw [xa_n a3, xa_n a2, xa_n a1], fun _ _ => rfl⟩
    have e15 : M1.2.2 15 = M.2.2 15 := by rw [← eM1]; rfl
    have y12 : M1.2.1 12 k = nI 0 := by rw [← eM1, xa_n (by decide), xa_n (by decide), xa_s, upd_s]; rfl
    have y13 : M1.2.1 13 k = nI 0 := by rw [← eM1, xa_n (by decide), xa_s, upd_s]; rfl
    have y14 : M1.2.1 14 k = nI 0 := by rw [← eM1, xa_s, upd_s]; rfl
    have o12 : ∀ q, ¬ q = k → M1.2.1 12 q = M.2.1 12 q ∧ M1.2.1 13 q = M.2.1 13 q ∧ M1.2.1 14 q = M.2.1 14 q := fun q e => by rw [← eM1]; exact ⟨by rw [xa_n (by decide), xa_n (by decide), xa_s, upd_n e], by rw [xa_n (by decide), xa_s, upd_n e, xa_n (by decide)], by rw [xa_s, upd_n e, xa_n (by decide), xa_n (by decide)]⟩
    refine f5i (k := k) (by omega) 65 0 M1 (by omega) (fun j hj => by omega) (fun M2 F2 z2 => ?_)
    refine xi_iinc (v := nI (k + 1)) (lv' := [some (.ref 0), some (.int (nI (k + 1))), some (.int (nI 65))]) dX10_fresh_206 rfl (xinc k) (by decide) rfl ?_
    refine xi_goto 143 dX10_fresh_209 (by decide) ?_
    refine xi_drop [true, true, false] rfl ?_
    refine ih (k + 1) M2 (by omega) (fun q hq => ?_) (fun M3 F3 z => h M3 ⟨F3.1.trans (F2.1.trans F1.1), fun a a1 a2 a3 => (F3.2.1 a a1 a2 a3).trans (by rw [F2.2.1]; exact F1.2.1 a a1 a2 a3), fun a ha => (F3.2.2 a ha).trans ((F2.2.2.1 a ha).trans (F1.2.2 a ha))⟩ z)
    by_cases e : q = k
    · rw [e]; exact ⟨z2, by rw [F2.2.1]; exact y12, by rw [F2.2.1]; exact y13, by rw [F2.2.1]; exact y14⟩
    · obtain ⟨m1, m2, m3, m4⟩ := hi q (by omega)
      exact ⟨fun i hi2 => (F2.2.2.2 _ (by omega)).trans ((congrFun e15 _).trans (m1 i hi2)), by rw [F2.2.1]; exact (o12 q e).1.trans m2, by rw [F2.2.1]; exact (o12 q e).2.1.trans m3, by rw [F2.2.1]; exact (o12 q e).2.2.trans m4⟩

set_option maxHeartbeats 4000000 in
set_option maxRecDepth 100000 in
theorem f6 {Q : Option Value → xM → Prop} {a b P : Nat} (ha : 3 ≤ a) (ha2 : a ≤ 10) (hb : 3 ≤ b) (hb2 : b ≤ 10) (hP : 1 ≤ P) (hP2 : P ≤ 4) : ∀ (f p : Nat) (M : xM), p + f = P → M.1 0 1 = nI a → M.1 0 2 = nI b → M.1 0 3 = nI P → FB a b p M → (∀ M2, ((∀ k, ¬ k = 8 → M2.1 0 k = M.1 0 k) ∧ M2.2.2 = M.2.2 ∧ ∀ x, ¬ x = 4 → ¬ x = 5 → M2.2.1 x = M.2.1 x) → FB a b P M2 → Q none M2) → WP shM mX10_fresh 249 [some (.ref 0), some (.int (nI p)), none] [] M Q := by
  have hab : a * b ≤ 10 * 10 := Nat.mul_le_mul ha2 hb2
  have hab2 : 3 * 3 ≤ a * b := Nat.mul_le_mul ha hb
  intro f
  induction f with
  | zero =>
    intro p M hf hwa hhb hPP hI h
    obtain rfl : P = p := by omega
    refine xi_iload_n dX10_fresh_249 rfl ?_
    refine xi_aload_n dX10_fresh_250 rfl ?_
    refine xe_getI (v := nI P) dX10_fresh_251 fgX10_16 mm0 rfl hPP ?_
    refine xn_icmp_ge P P 320 dX10_fresh_254 (by decide) rfl rfl (by omega) (by omega) (fun h254 => ?_) (fun z => absurd z (by omega))
    refine xi_vret dX10_fresh_320 rfl ?_
    exact h M ⟨fun _ _ => rfl, rfl, fun _ _ _ => rfl⟩ hI
  | succ f ih =>
    intro p M hf hwa hhb hPP hI h
    refine xi_iload_n dX10_fresh_249 rfl ?_
    refine xi_aload_n dX10_fresh_250 rfl ?_
    refine xe_getI (v := nI P) dX10_fresh_251 fgX10_16 mm0 rfl hPP ?_
    refine xn_icmp_ge p P 320 dX10_fresh_254 (by decide) rfl rfl (by omega) (by omega) (fun z => absurd z (by omega)) (fun h254 => ?_)
    refine xi_aload_n dX10_fresh_257 rfl ?_
    refine xi_iconst (v := 0) dX10_fresh_258 rfl ?_
    refine xi_iload_n dX10_fresh_259 rfl ?_
    refine xn_if_ne p 267 dX10_fresh_260 (by decide) rfl (by omega) (fun h260 => ?_) (fun h260 => ?_)
    · skip
      refine xi_iload_n dX10_fresh_267 rfl ?_
      refine xi_iconst (v := 1) dX10_fresh_268 rfl ?_
      refine xn_icmp_ne p 1 286 dX10_fresh_269 (by decide) rfl rfl (by omega) (by omega) (fun h269 => ?_) (fun h269 => ?_)
      · skip
        refine xi_iload_n dX10_fresh_286 rfl ?_
        refine xi_iconst (v := 2) dX10_fresh_287 rfl ?_
        refine xn_icmp_ne p 2 300 dX10_fresh_288 (by decide) rfl rfl (by omega) (by omega) (fun h288 => ?_) (fun h288 => ?_)
        · skip
          refine xi_aload_n dX10_fresh_300 rfl ?_
          refine xe_getI (v := nI b) dX10_fresh_301 fgX10_13 mm0 rfl hhb ?_
          refine xi_iconst (v := 1) dX10_fresh_304 rfl ?_
          refine xe_isub dX10_fresh_305 (v := nI (b - 1)) (pk_sub (b := 1) (by omega)) ?_
          refine xi_aload_n dX10_fresh_306 rfl ?_
          refine xe_getI (v := nI a) dX10_fresh_307 fgX10_7 mm0 rfl hwa ?_
          refine xe_imul dX10_fresh_310 (v := nI ((b - 1) * a)) (pk_mul _ _) ?_
          refine xi_callV [.int 0, .int (nI ((b - 1) * a))] [] dX10_fresh_311 zX10_addThing mlX10_133 mm0 rfl rfl rfl rfl rfl (Nat.le_of_ble_eq_true rfl) (Nat.le_of_ble_eq_true rfl) ⟨by decide, by decide⟩ ?_
          have ec : c0 a b p = (b - 1) * a := by unfold c0; first | rw [if_pos h260] | rw [if_neg h260, if_pos h269] | rw [if_neg h260, if_neg h269, if_pos h288] | rw [if_neg h260, if_neg h269, if_neg h288]
          refine n_addT (n := p) (q := 0) (c := nI ((b - 1) * a)) (by omega) (by decide) hI.1 (fun M1 F1 => ?_)
          have F1b : FA p 0 (nI (c0 a b p)) M M1 := by rw [ec]; exact F1
          show WP _ _ 314 _ [] _ _
          refine xi_iinc (v := nI (p + 1)) (lv' := [some (.ref 0), some (.int (nI (p + 1))), none]) dX10_fresh_314 rfl (xinc p) (by decide) rfl ?_
          refine xi_goto 249 dX10_fresh_317 (by decide) ?_
          refine ih (p + 1) M1 (by omega) (by rw [F1.1 1 (by decide)]; exact hwa) (by rw [F1.1 2 (by decide)]; exact hhb) (by rw [F1.1 3 (by decide)]; exact hPP) (hI.step F1b) (fun M2 F2 z => h M2 ⟨fun k hk => (F2.1 k hk).trans (F1.1 k hk), F2.2.1.trans F1.2.2.1, fun x x1 x2 => (F2.2.2 x x1 x2).trans (F1.2.2.2.1 x x1 x2)⟩ z)
        · skip
          refine xi_aload_n dX10_fresh_291 rfl ?_
          refine xe_getI (v := nI a) dX10_fresh_292 fgX10_7 mm0 rfl hwa ?_
          refine xi_iconst (v := 1) dX10_fresh_295 rfl ?_
          refine xe_isub dX10_fresh_296 (v := nI (a - 1)) (pk_sub (b := 1) (by omega)) ?_
          refine xi_goto 311 dX10_fresh_297 (by decide) ?_
          refine xi_callV [.int 0, .int (nI (a - 1))] [] dX10_fresh_311 zX10_addThing mlX10_133 mm0 rfl rfl rfl rfl rfl (Nat.le_of_ble_eq_true rfl) (Nat.le_of_ble_eq_true rfl) ⟨by decide, by decide⟩ ?_
          have ec : c0 a b p = a - 1 := by unfold c0; first | rw [if_pos h260] | rw [if_neg h260, if_pos h269] | rw [if_neg h260, if_neg h269, if_pos h288] | rw [if_neg h260, if_neg h269, if_neg h288]
          refine n_addT (n := p) (q := 0) (c := nI (a - 1)) (by omega) (by decide) hI.1 (fun M1 F1 => ?_)
          have F1b : FA p 0 (nI (c0 a b p)) M M1 := by rw [ec]; exact F1
          show WP _ _ 314 _ [] _ _
          refine xi_iinc (v := nI (p + 1)) (lv' := [some (.ref 0), some (.int (nI (p + 1))), none]) dX10_fresh_314 rfl (xinc p) (by decide) rfl ?_
          refine xi_goto 249 dX10_fresh_317 (by decide) ?_
          refine ih (p + 1) M1 (by omega) (by rw [F1.1 1 (by decide)]; exact hwa) (by rw [F1.1 2 (by decide)]; exact hhb) (by rw [F1.1 3 (by decide)]; exact hPP) (hI.step F1b) (fun M2 F2 z => h M2 ⟨fun k hk => (F2.1 k hk).trans (F1.1 k hk), F2.2.1.trans F1.2.2.1, fun x x1 x2 => (F2.2.2 x x1 x2).trans (F1.2.2.2.1 x x1 x2)⟩ z)
      · skip
        refine xi_aload_n dX10_fresh_272 rfl ?_
        refine xe_getI (v := nI a) dX10_fresh_273 fgX10_7 mm0 rfl hwa ?_
        refine xi_aload_n dX10_fresh_276 rfl ?_
        refine xe_getI (v := nI b) dX10_fresh_277 fgX10_13 mm0 rfl hhb ?_
        refine xe_imul dX10_fresh_280 (v := nI (a * b)) (pk_mul _ _) ?_
        refine xi_iconst (v := 1) dX10_fresh_281 rfl ?_
        refine xe_isub dX10_fresh_282 (v := nI (a * b - 1)) (pk_sub (b := 1) (by omega)) ?_
        refine xi_goto 311 dX10_fresh_283 (by decide) ?_
        refine xi_callV [.int 0, .int (nI (a * b - 1))] [] dX10_fresh_311 zX10_addThing mlX10_133 mm0 rfl rfl rfl rfl rfl (Nat.le_of_ble_eq_true rfl) (Nat.le_of_ble_eq_true rfl) ⟨by decide, by decide⟩ ?_
        have ec : c0 a b p = a * b - 1 := by unfold c0; first | rw [if_pos h260] | rw [if_neg h260, if_pos h269] | rw [if_neg h260, if_neg h269, if_pos h288] | rw [if_neg h260, if_neg h269, if_neg h288]
        refine n_addT (n := p) (q := 0) (c := nI (a * b - 1)) (by omega) (by decide) hI.1 (fun M1 F1 => ?_)
        have F1b : FA p 0 (nI (c0 a b p)) M M1 := by rw [ec]; exact F1
        show WP _ _ 314 _ [] _ _
        refine xi_iinc (v := nI (p + 1)) (lv' := [some (.ref 0), some (.int (nI (p + 1))), none]) dX10_fresh_314 rfl (xinc p) (by decide) rfl ?_
        refine xi_goto 249 dX10_fresh_317 (by decide) ?_
        refine ih (p + 1) M1 (by omega) (by rw [F1.1 1 (by decide)]; exact hwa) (by rw [F1.1 2 (by decide)]; exact hhb) (by rw [F1.1 3 (by decide)]; exact hPP) (hI.step F1b) (fun M2 F2 z => h M2 ⟨fun k hk => (F2.1 k hk).trans (F1.1 k hk), F2.2.1.trans F1.2.2.1, fun x x1 x2 => (F2.2.2 x x1 x2).trans (F1.2.2.2.1 x x1 x2)⟩ z)
    · skip
      refine xi_iconst (v := 0) dX10_fresh_263 rfl ?_
      refine xi_goto 311 dX10_fresh_264 (by decide) ?_
      refine xi_callV [.int 0, .int 0] [] dX10_fresh_311 zX10_addThing mlX10_133 mm0 rfl rfl rfl rfl rfl (Nat.le_of_ble_eq_true rfl) (Nat.le_of_ble_eq_true rfl) ⟨by decide, by decide⟩ ?_
      have ec : c0 a b p = 0 := by unfold c0; first | rw [if_pos h260] | rw [if_neg h260, if_pos h269] | rw [if_neg h260, if_neg h269, if_pos h288] | rw [if_neg h260, if_neg h269, if_neg h288]
      refine n_addT (n := p) (q := 0) (c := 0) (by omega) (by decide) hI.1 (fun M1 F1 => ?_)
      have F1b : FA p 0 (nI (c0 a b p)) M M1 := by rw [ec]; exact F1
      show WP _ _ 314 _ [] _ _
      refine xi_iinc (v := nI (p + 1)) (lv' := [some (.ref 0), some (.int (nI (p + 1))), none]) dX10_fresh_314 rfl (xinc p) (by decide) rfl ?_
      refine xi_goto 249 dX10_fresh_317 (by decide) ?_
      refine ih (p + 1) M1 (by omega) (by rw [F1.1 1 (by decide)]; exact hwa) (by rw [F1.1 2 (by decide)]; exact hhb) (by rw [F1.1 3 (by decide)]; exact hPP) (hI.step F1b) (fun M2 F2 z => h M2 ⟨fun k hk => (F2.1 k hk).trans (F1.1 k hk), F2.2.1.trans F1.2.2.1, fun x x1 x2 => (F2.2.2 x x1 x2).trans (F1.2.2.2.1 x x1 x2)⟩ z)

