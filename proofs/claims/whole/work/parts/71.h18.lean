theorem mtb_pre {H K : Nat → Nat} {now : Nat} : ∀ (f i a b c a2 b2 c2 : Nat) (q : Nat × (Nat → Int32)), mtb H K now i f (a, b, c, q) = (a, b, c, (mtb H K now i f (a2, b2, c2, q)).2.2.2)
  | 0, i, a, b, c, a2, b2, c2, q => rfl
  | f + 1, i, a, b, c, a2, b2, c2, q => by
    rw [mtb, mtb]
    by_cases h : ¬ H i = 0 ∧ ¬ K i = H i
    · rw [if_pos h, if_pos h]
      exact mtb_pre f (i + 1) a b c a2 b2 c2 (mnote (a2, b2, c2, q) (nI (i / 4)) (nI (i % 4)) (nI (H i - 1)) (nI now)).2.2.2
    · rw [if_neg h, if_neg h]
      exact mtb_pre f (i + 1) a b c a2 b2 c2 q
def FEm (M M2 : xM) : Prop := (∀ k, ¬ k = 24 → M2.1 0 k = M.1 0 k) ∧ M2.2.2 = M.2.2 ∧ ∀ a, ¬ a = 10 → M2.2.1 a = M.2.1 a
theorem FEm.rf {M : xM} : FEm M M := ⟨fun _ _ => rfl, rfl, fun _ _ => rfl⟩
theorem FEm.tr {M M1 M2 : xM} (h : FEm M M1) (h2 : FEm M1 M2) : FEm M M2 := ⟨fun a ha => (h2.1 a ha).trans (h.1 a ha), h2.2.1.trans h.2.1, fun a ha => (h2.2.2 a ha).trans (h.2.2 a ha)⟩
/-- how many hits are taken back, with their notes -/
def NB (e : xE2) (M : xM) : Prop := M.1 0 24 = nI e.2.2.2.1 ∧ ∀ i, i < 4 * min e.2.2.2.1 64 → M.2.1 10 i = e.2.2.2.2 i
set_option maxHeartbeats 4000000 in
set_option maxRecDepth 100000 in
theorem gl_1 {H : Nat → Nat} {Q : Option Value → xM → Prop} {t now : Nat} (hn : now ≤ 500) : ∀ (f k : Nat) (M : xM), k + f = 4 * now → 4 * t ≤ k → M.1 0 10 = nI now → MH H M → (∀ i, 4 * t ≤ i → i < k → M.2.1 11 i = nI (H i)) → (∀ M2, (M2.1 = M.1 ∧ M2.2.2 = M.2.2 ∧ ∀ a, ¬ a = 11 → M2.2.1 a = M.2.1 a) → (∀ i, 4 * t ≤ i → i < 4 * now → M2.2.1 11 i = nI (H i)) → WP shM mX10_goBack 32 [some (.ref 0), some (.int (nI t)), some (.int (nI (4 * now)))] [] M2 Q) → WP shM mX10_goBack 4 [some (.ref 0), some (.int (nI t)), some (.int (nI k))] [] M Q := by
  intro f
  induction f with
  | zero =>
    intro k M hf hk hno hH hI h
    obtain rfl : k = 4 * now := by omega
    refine xi_iload_n dX10_goBack_4 rfl ?_
    refine xi_iconst (v := 4) dX10_goBack_5 rfl ?_
    refine xi_aload_n dX10_goBack_6 rfl ?_
    refine xe_getI (v := nI now) dX10_goBack_7 fgX10_110 mm0 rfl hno ?_
    refine xe_imul dX10_goBack_10 (v := nI (4 * now)) (pk_mul 4 now) ?_
    refine xn_icmp_ge (4 * now) (4 * now) 32 dX10_goBack_11 (by decide) rfl rfl (by omega) (by omega) (fun h11 => ?_) (fun z => absurd z (by omega))
    exact h M ⟨rfl, rfl, fun _ _ => rfl⟩ (fun i h1 h2 => hI i h1 (by omega))
  | succ f ih =>
    intro k M hf hk hno hH hI h
    refine xi_iload_n dX10_goBack_4 rfl ?_
    refine xi_iconst (v := 4) dX10_goBack_5 rfl ?_
    refine xi_aload_n dX10_goBack_6 rfl ?_
    refine xe_getI (v := nI now) dX10_goBack_7 fgX10_110 mm0 rfl hno ?_
    refine xe_imul dX10_goBack_10 (v := nI (4 * now)) (pk_mul 4 now) ?_
    refine xn_icmp_ge k (4 * now) 32 dX10_goBack_11 (by decide) rfl rfl (by omega) (by omega) (fun z => absurd z (by omega)) (fun h11 => ?_)
    refine xi_aload_n dX10_goBack_14 rfl ?_
    refine xi_getR dX10_goBack_15 fgX10_58 mm0 rfl ?_
    refine xi_iload_n dX10_goBack_18 rfl ?_
    refine xi_aload_n dX10_goBack_19 rfl ?_
    refine xi_getR dX10_goBack_20 fgX10_49 mm0 rfl ?_
    refine xat 23 rfl ?_
    refine xi_iload_n dX10_goBack_23 rfl ?_
    refine xe_iald (v := nI (H k)) k dX10_goBack_24 mm8 (by decide) rfl (by omega) (hH k (by omega)) ?_
    refine xe_iast k dX10_goBack_25 mm11 (by decide) rfl (by omega) ?_
    generalize eM1 : (xa M 11 (upd (M.2.1 11) k (nI (H k)))) = M1
    have F1 : (M1.1 = M.1 ∧ M1.2.2 = M.2.2 ∧ ∀ a, ¬ a = 11 → M1.2.1 a = M.2.1 a) := by rw [← eM1]; exact ⟨rfl, rfl, fun a ha => xa_n ha⟩
    have hI1 : ∀ i, 4 * t ≤ i → i < k + 1 → M1.2.1 11 i = nI (H i) := by
      intro i h1 h2
      rw [← eM1, xa_s]
      by_cases q : i = k
      · rw [q, upd_s]
      · rw [upd_n q]; exact hI i h1 (by omega)
    refine xi_iinc (v := nI (k + 1)) (lv' := [some (.ref 0), some (.int (nI t)), some (.int (nI (k + 1)))]) dX10_goBack_26 rfl (xinc k) (by decide) rfl ?_
    refine xi_goto 4 dX10_goBack_29 (by decide) ?_
    exact ih (k + 1) M1 (by omega) (by omega) (by rw [F1.1]; exact hno) (hH.sm (F1.2.2 8 (by decide))) hI1 (fun M2 F2 z => h M2 ⟨F2.1.trans F1.1, F2.2.1.trans F1.2.1, fun a ha => (F2.2.2 a ha).trans (F1.2.2 a ha)⟩ z)

set_option maxHeartbeats 4000000 in
set_option maxRecDepth 100000 in
theorem gl_2 {G : xG} {S0 : xS} {B : Nat → Nat} {Q : Option Value → xM → Prop} {t now : Nat} (hW : wG G) (hw0 : wS G S0) (wB : wA B) (hn : now ≤ 500) : ∀ (f k : Nat) (M : xM) (H : Nat → Nat), k + f = now → t ≤ k → M.1 0 10 = nI now → MG G M → MA B M → MH H M → (∀ u, u ≤ k → RM G (Zf G B S0 u) M (112 * u)) → (∀ M2, (M2.1 = M.1 ∧ M2.2.2 = M.2.2 ∧ (∀ a, ¬ a = 5 → ¬ a = 8 → M2.2.1 a = M.2.1 a) ∧ ∀ i, i < 112 → M2.2.1 5 i = M.2.1 5 i) → MH (mwH G B (Zf G B S0) k f H) M2 → (∀ u, u ≤ now → RM G (Zf G B S0 u) M2 (112 * u)) → WP shM mX10_goBack 53 [some (.ref 0), some (.int (nI t)), some (.int (nI now))] [] M2 Q) → WP shM mX10_goBack 34 [some (.ref 0), some (.int (nI t)), some (.int (nI k))] [] M Q := by
  intro f
  induction f with
  | zero =>
    intro k M H hf hk hno hG hB hH hR h
    obtain rfl : now = k := by omega
    refine xi_iload_n dX10_goBack_34 rfl ?_
    refine xi_aload_n dX10_goBack_35 rfl ?_
    refine xe_getI (v := nI now) dX10_goBack_36 fgX10_110 mm0 rfl hno ?_
    refine xn_icmp_ge now now 53 dX10_goBack_39 (by decide) rfl rfl (by omega) (by omega) (fun h39 => ?_) (fun z => absurd z (by omega))
    exact h M ⟨rfl, rfl, fun _ _ _ => rfl, fun _ _ => rfl⟩ hH hR
  | succ f ih =>
    intro k M H hf hk hno hG hB hH hR h
    refine xi_iload_n dX10_goBack_34 rfl ?_
    refine xi_aload_n dX10_goBack_35 rfl ?_
    refine xe_getI (v := nI now) dX10_goBack_36 fgX10_110 mm0 rfl hno ?_
    refine xn_icmp_ge k now 53 dX10_goBack_39 (by decide) rfl rfl (by omega) (by omega) (fun z => absurd z (by omega)) (fun h39 => ?_)
    refine xi_aload_n dX10_goBack_42 rfl ?_
    refine xi_iload_n dX10_goBack_43 rfl ?_
    refine xi_callV [.int (nI k)] [] dX10_goBack_44 zX10_work mlX10_240 mm0 rfl rfl rfl rfl rfl (Nat.le_of_ble_eq_true rfl) (Nat.le_of_ble_eq_true rfl) ⟨by decide, by decide⟩ ?_
    refine n_work hW hG (s := 112 * (k + 1)) (by omega) rfl (hR k (Nat.le_refl _)) (wS_Zf hW hw0 k) wB hB hH (fun M1 F1 R1 H1 => ?_)
    show WP _ _ 47 _ [] _ _
    refine xi_iinc (v := nI (k + 1)) (lv' := [some (.ref 0), some (.int (nI t)), some (.int (nI (k + 1)))]) dX10_goBack_47 rfl (xinc k) (by decide) rfl ?_
    refine xi_goto 34 dX10_goBack_50 (by decide) ?_
    refine ih (k + 1) M1 _ (by omega) (by omega) (by rw [F1.1]; exact hno) (hG.fh F1) (hB.fh F1) H1 (fun u hu => ?_) (fun M2 F2 z r => h M2 ⟨F2.1.trans F1.1, F2.2.1.trans F1.2.1, fun a a1 a2 => (F2.2.2.1 a a1 a2).trans (F1.2.2.1 a a1 a2), fun i hi => (F2.2.2.2 i hi).trans (F1.2.2.2 i (by omega))⟩ z r)
    by_cases e : u = k + 1
    · rw [e]; exact R1
    · exact (hR u (by omega)).mv hW (fun j hj => F1.2.2.2 _ (by omega))

set_option maxHeartbeats 4000000 in
set_option maxRecDepth 100000 in
theorem gl_3 {H K : Nat → Nat} {Q : Option Value → xM → Prop} {t now B : Nat} (hn : now ≤ 500) (hB : B < 2 ^ 30) (hHb : ∀ i, H i ≤ 16) (hKb : ∀ i, K i ≤ 16) : ∀ (f k : Nat) (M : xM) (e : xE2), k + f = 4 * now → 4 * t ≤ k → M.1 0 10 = nI now → MH K M → (∀ i, 4 * t ≤ i → i < 4 * now → M.2.1 11 i = nI (H i)) → NB e M → e.2.2.2.1 + f ≤ B → (∀ M2, FEm M M2 → NB (mtb H K now k f e) M2 → WP shM mX10_goBack 184 [some (.ref 0), some (.int (nI t)), some (.int (nI (4 * now)))] [] M2 Q) → WP shM mX10_goBack 57 [some (.ref 0), some (.int (nI t)), some (.int (nI k))] [] M Q := by
  intro f
  induction f with
  | zero =>
    intro k M e hf hk hno hK hI hE hb h
    obtain rfl : k = 4 * now := by omega
    refine xi_iload_n dX10_goBack_57 rfl ?_
    refine xi_iconst (v := 4) dX10_goBack_58 rfl ?_
    refine xi_aload_n dX10_goBack_59 rfl ?_
    refine xe_getI (v := nI now) dX10_goBack_60 fgX10_110 mm0 rfl hno ?_
    refine xe_imul dX10_goBack_63 (v := nI (4 * now)) (pk_mul 4 now) ?_
    refine xn_icmp_ge (4 * now) (4 * now) 184 dX10_goBack_64 (by decide) rfl rfl (by omega) (by omega) (fun h64 => ?_) (fun z => absurd z (by omega))
    exact h M FEm.rf hE
  | succ f ih =>
    intro k M e hf hk hno hK hI hE hb h
    rw [mtb] at h
    have hk2 := hKb k
    have hk3 := hHb k
    refine xi_iload_n dX10_goBack_57 rfl ?_
    refine xi_iconst (v := 4) dX10_goBack_58 rfl ?_
    refine xi_aload_n dX10_goBack_59 rfl ?_
    refine xe_getI (v := nI now) dX10_goBack_60 fgX10_110 mm0 rfl hno ?_
    refine xe_imul dX10_goBack_63 (v := nI (4 * now)) (pk_mul 4 now) ?_
    refine xn_icmp_ge k (4 * now) 184 dX10_goBack_64 (by decide) rfl rfl (by omega) (by omega) (fun z => absurd z (by omega)) (fun h64 => ?_)
    refine xi_aload_n dX10_goBack_67 rfl ?_
    refine xi_getR dX10_goBack_68 fgX10_58 mm0 rfl ?_
    refine xi_iload_n dX10_goBack_71 rfl ?_
    refine xe_iald (v := nI (H k)) k dX10_goBack_72 mm11 (by decide) rfl (by omega) (by first | exact hI k (by omega) (by omega) | (simp only [xa_n (show ¬ (11 : Nat) = 10 by decide)]; exact hI k (by omega) (by omega))) ?_
    refine xn_if_le (H k) 178 dX10_goBack_73 (by decide) rfl (by omega) (fun h73 => ?_) (fun h73 => ?_)
    · skip
      refine xi_iinc (v := nI (k + 1)) (lv' := [some (.ref 0), some (.int (nI t)), some (.int (nI (k + 1)))]) dX10_goBack_178 rfl (xinc k) (by decide) rfl ?_
      refine xi_goto 57 dX10_goBack_181 (by decide) ?_
      rw [if_neg (fun q => by first | (have := q.1; omega) | exact q.2 h88)] at h
      exact ih (k + 1) M e (by omega) (by omega) hno hK hI hE (by omega) h
    · skip
      refine xi_aload_n dX10_goBack_76 rfl ?_
      refine xi_getR dX10_goBack_77 fgX10_49 mm0 rfl ?_
      refine xi_iload_n dX10_goBack_80 rfl ?_
      refine xe_iald (v := nI (K k)) k dX10_goBack_81 mm8 (by decide) rfl (by omega) (hK k (by omega)) ?_
      refine xi_aload_n dX10_goBack_82 rfl ?_
      refine xi_getR dX10_goBack_83 fgX10_58 mm0 rfl ?_
      refine xi_iload_n dX10_goBack_86 rfl ?_
      refine xe_iald (v := nI (H k)) k dX10_goBack_87 mm11 (by decide) rfl (by omega) (by first | exact hI k (by omega) (by omega) | (simp only [xa_n (show ¬ (11 : Nat) = 10 by decide)]; exact hI k (by omega) (by omega))) ?_
      refine xn_icmp_eq (K k) (H k) 178 dX10_goBack_88 (by decide) rfl rfl (by omega) (by omega) (fun h88 => ?_) (fun h88 => ?_)
      · skip
        refine xi_iinc (v := nI (k + 1)) (lv' := [some (.ref 0), some (.int (nI t)), some (.int (nI (k + 1)))]) dX10_goBack_178 rfl (xinc k) (by decide) rfl ?_
        refine xi_goto 57 dX10_goBack_181 (by decide) ?_
        rw [if_neg (fun q => by first | (have := q.1; omega) | exact q.2 h88)] at h
        exact ih (k + 1) M e (by omega) (by omega) hno hK hI hE (by omega) h
      · skip
        refine xi_aload_n dX10_goBack_91 rfl ?_
        refine xe_getI (v := nI e.2.2.2.1) dX10_goBack_92 fgX10_130 mm0 rfl hE.1 ?_
        refine xi_bipush (v := 64) dX10_goBack_95 (by decide) ?_
        refine xn_icmp_ge e.2.2.2.1 64 168 dX10_goBack_97 (by decide) rfl rfl (by omega) (by omega) (fun h97 => ?_) (fun h97 => ?_)
        · skip
          refine xi_aload_n dX10_goBack_168 rfl ?_
          refine xi_dup dX10_goBack_169 rfl ?_
          refine xe_getI (v := nI e.2.2.2.1) dX10_goBack_170 fgX10_130 mm0 rfl hE.1 ?_
          refine xi_iconst (v := 1) dX10_goBack_173 rfl ?_
          refine xe_iadd dX10_goBack_174 (v := nI (e.2.2.2.1 + 1)) (nI_add e.2.2.2.1 1) ?_
          refine xi_put dX10_goBack_175 fpX10_130 mm0 rfl ?_
          refine xi_iinc (v := nI (k + 1)) (lv' := [some (.ref 0), some (.int (nI t)), some (.int (nI (k + 1)))]) dX10_goBack_178 rfl (xinc k) (by decide) rfl ?_
          refine xi_goto 57 dX10_goBack_181 (by decide) ?_
          rw [if_pos ⟨by omega, h88⟩] at h
          generalize eM1 : (xf M 0 24 (nI (e.2.2.2.1 + 1))) = M1
          have F1 : FEm M M1 := by rw [← eM1]; exact ⟨fun a ha => xf_k ha, rfl, fun a ha => rfl⟩
          have E1 : NB (mnote e (nI (k / 4)) (nI (k % 4)) (nI (H k - 1)) (nI now)) M1 := by rw [← eM1]; exact ⟨xf_s, note_full (by omega) hE.2⟩
          exact ih (k + 1) M1 _ (by omega) (by omega) (by rw [F1.1 10 (by decide)]; exact hno) (hK.sm (F1.2.2 8 (by decide))) (by rw [F1.2.2 11 (by decide)]; exact hI) E1 (show e.2.2.2.1 + 1 + f ≤ B by omega) (fun M2 F2 z => h M2 (F1.tr F2) z)
        · skip
          refine xi_aload_n dX10_goBack_100 rfl ?_
          refine xi_getR dX10_goBack_101 fgX10_55 mm0 rfl ?_
          refine xi_iconst (v := 4) dX10_goBack_104 rfl ?_
          refine xi_aload_n dX10_goBack_105 rfl ?_
          refine xe_getI (v := nI e.2.2.2.1) dX10_goBack_106 fgX10_130 mm0 rfl hE.1 ?_
          refine xe_imul dX10_goBack_109 (v := nI (4 * e.2.2.2.1)) (pk_mul 4 e.2.2.2.1) ?_
          refine xi_iload_n dX10_goBack_110 rfl ?_
          refine xi_iconst (v := 4) dX10_goBack_111 rfl ?_
          refine xe_idiv dX10_goBack_112 (by decide) (v := nI (k / 4)) (pk_div (by omega) (by decide) (by decide)) ?_
          refine xe_iast (4 * e.2.2.2.1) dX10_goBack_113 mm10 (by decide) rfl (by omega) ?_
          refine xi_aload_n dX10_goBack_114 rfl ?_
          refine xat 115 rfl ?_
          refine xi_getR dX10_goBack_115 fgX10_55 mm0 rfl ?_
          refine xi_iconst (v := 4) dX10_goBack_118 rfl ?_
          refine xi_aload_n dX10_goBack_119 rfl ?_
          refine xe_getI (v := nI e.2.2.2.1) dX10_goBack_120 fgX10_130 mm0 rfl hE.1 ?_
          refine xe_imul dX10_goBack_123 (v := nI (4 * e.2.2.2.1)) (pk_mul 4 e.2.2.2.1) ?_
          refine xi_iconst (v := 1) dX10_goBack_124 rfl ?_
          refine xe_iadd dX10_goBack_125 (v := nI (4 * e.2.2.2.1 + 1)) (nI_add (4 * e.2.2.2.1) 1) ?_
          refine xi_iload_n dX10_goBack_126 rfl ?_
          refine xi_iconst (v := 4) dX10_goBack_127 rfl ?_
          refine xe_irem dX10_goBack_128 (by decide) (v := nI (k % 4)) (pk_rem (by omega) (by decide) (by decide)) ?_
          refine xe_iast (4 * e.2.2.2.1 + 1) dX10_goBack_129 mm10 (by decide) rfl (by omega) ?_
          refine xi_aload_n dX10_goBack_130 rfl ?_
          refine xat 131 rfl ?_
          refine xi_getR dX10_goBack_131 fgX10_55 mm0 rfl ?_
          refine xi_iconst (v := 4) dX10_goBack_134 rfl ?_
          refine xi_aload_n dX10_goBack_135 rfl ?_
          refine xe_getI (v := nI e.2.2.2.1) dX10_goBack_136 fgX10_130 mm0 rfl hE.1 ?_
          refine xe_imul dX10_goBack_139 (v := nI (4 * e.2.2.2.1)) (pk_mul 4 e.2.2.2.1) ?_
          refine xi_iconst (v := 2) dX10_goBack_140 rfl ?_
          refine xe_iadd dX10_goBack_141 (v := nI (4 * e.2.2.2.1 + 2)) (nI_add (4 * e.2.2.2.1) 2) ?_
          refine xi_aload_n dX10_goBack_142 rfl ?_
          refine xi_getR dX10_goBack_143 fgX10_58 mm0 rfl ?_
          refine xi_iload_n dX10_goBack_146 rfl ?_
          refine xe_iald (v := nI (H k)) k dX10_goBack_147 mm11 (by decide) rfl (by omega) (by first | exact hI k (by omega) (by omega) | (simp only [xa_n (show ¬ (11 : Nat) = 10 by decide)]; exact hI k (by omega) (by omega))) ?_
          refine xi_iconst (v := 1) dX10_goBack_148 rfl ?_
          refine xat 149 rfl ?_
          refine xe_isub dX10_goBack_149 (v := nI (H k - 1)) (pk_sub (b := 1) (by omega)) ?_
          refine xe_iast (4 * e.2.2.2.1 + 2) dX10_goBack_150 mm10 (by decide) rfl (by omega) ?_
          refine xi_aload_n dX10_goBack_151 rfl ?_
          refine xi_getR dX10_goBack_152 fgX10_55 mm0 rfl ?_
          refine xi_iconst (v := 4) dX10_goBack_155 rfl ?_
          refine xi_aload_n dX10_goBack_156 rfl ?_
          refine xe_getI (v := nI e.2.2.2.1) dX10_goBack_157 fgX10_130 mm0 rfl hE.1 ?_
          refine xe_imul dX10_goBack_160 (v := nI (4 * e.2.2.2.1)) (pk_mul 4 e.2.2.2.1) ?_
          refine xi_iconst (v := 3) dX10_goBack_161 rfl ?_
          refine xe_iadd dX10_goBack_162 (v := nI (4 * e.2.2.2.1 + 3)) (nI_add (4 * e.2.2.2.1) 3) ?_
          refine xi_aload_n dX10_goBack_163 rfl ?_
          refine xe_getI (v := nI now) dX10_goBack_164 fgX10_110 mm0 rfl hno ?_
          refine xat 167 rfl ?_
          refine xe_iast (4 * e.2.2.2.1 + 3) dX10_goBack_167 mm10 (by decide) rfl (by omega) ?_
          refine xi_aload_n dX10_goBack_168 rfl ?_
          refine xi_dup dX10_goBack_169 rfl ?_
          refine xe_getI (v := nI e.2.2.2.1) dX10_goBack_170 fgX10_130 mm0 rfl hE.1 ?_
          refine xi_iconst (v := 1) dX10_goBack_173 rfl ?_
          refine xe_iadd dX10_goBack_174 (v := nI (e.2.2.2.1 + 1)) (nI_add e.2.2.2.1 1) ?_
          refine xi_put dX10_goBack_175 fpX10_130 mm0 rfl ?_
          refine xi_iinc (v := nI (k + 1)) (lv' := [some (.ref 0), some (.int (nI t)), some (.int (nI (k + 1)))]) dX10_goBack_178 rfl (xinc k) (by decide) rfl ?_
          refine xi_goto 57 dX10_goBack_181 (by decide) ?_
          rw [if_pos ⟨by omega, h88⟩] at h
          generalize eM1 : (xf (xa (xa (xa (xa M 10 (upd (M.2.1 10) (4 * e.2.2.2.1) (nI (k / 4)))) 10 (upd ((xa M 10 (upd (M.2.1 10) (4 * e.2.2.2.1) (nI (k / 4)))).2.1 10) (4 * e.2.2.2.1 + 1) (nI (k % 4)))) 10 (upd ((xa (xa M 10 (upd (M.2.1 10) (4 * e.2.2.2.1) (nI (k / 4)))) 10 (upd ((xa M 10 (upd (M.2.1 10) (4 * e.2.2.2.1) (nI (k / 4)))).2.1 10) (4 * e.2.2.2.1 + 1) (nI (k % 4)))).2.1 10) (4 * e.2.2.2.1 + 2) (nI (H k - 1)))) 10 (upd ((xa (xa (xa M 10 (upd (M.2.1 10) (4 * e.2.2.2.1) (nI (k / 4)))) 10 (upd ((xa M 10 (upd (M.2.1 10) (4 * e.2.2.2.1) (nI (k / 4)))).2.1 10) (4 * e.2.2.2.1 + 1) (nI (k % 4)))) 10 (upd ((xa (xa M 10 (upd (M.2.1 10) (4 * e.2.2.2.1) (nI (k / 4)))) 10 (upd ((xa M 10 (upd (M.2.1 10) (4 * e.2.2.2.1) (nI (k / 4)))).2.1 10) (4 * e.2.2.2.1 + 1) (nI (k % 4)))).2.1 10) (4 * e.2.2.2.1 + 2) (nI (H k - 1)))).2.1 10) (4 * e.2.2.2.1 + 3) (nI now))) 0 24 (nI (e.2.2.2.1 + 1))) = M1
          have F1 : FEm M M1 := by rw [← eM1]; exact ⟨fun a ha => xf_k ha, rfl, fun a ha => by rw [xf_a, xa_n ha, xa_n ha, xa_n ha, xa_n ha]⟩
          have E1 : NB (mnote e (nI (k / 4)) (nI (k % 4)) (nI (H k - 1)) (nI now)) M1 := by rw [← eM1]; exact ⟨xf_s, by rw [xf_a, xa_s, xa_s, xa_s, xa_s]; exact note_row h97 hE.2⟩
          exact ih (k + 1) M1 _ (by omega) (by omega) (by rw [F1.1 10 (by decide)]; exact hno) (hK.sm (F1.2.2 8 (by decide))) (by rw [F1.2.2 11 (by decide)]; exact hI) E1 (show e.2.2.2.1 + 1 + f ≤ B by omega) (fun M2 F2 z => h M2 (F1.tr F2) z)

set_option maxHeartbeats 4000000 in
set_option maxRecDepth 100000 in
theorem n_goBack {G : xG} {S0 : xS} {B H : Nat → Nat} {lg : xE2} {M : xM} {Q : Option Value → xM → Prop} {t now Bd : Nat} (hW : wG G) (hw0 : wS G S0) (wB : wA B) (hn : now ≤ 500) (htn : t < now) (ht8 : now ≤ t + 8) (hB2 : Bd < 2 ^ 30) (hHb : ∀ i, H i ≤ 16) (hKb : ∀ i, (mwH G B (Zf G B S0) t (now - t) H) i ≤ 16) (hb : lg.2.2.2.1 + 32 ≤ Bd) (hm8 : lg.2.2.1 ≤ 8) (hno : M.1 0 10 = nI now) (hG : MG G M) (hA : MA B M) (hH : MH H M) (hR : ∀ u, u ≤ t → RM G (Zf G B S0 u) M (112 * u)) (hE : NE lg M) (h : ∀ M2, ((∀ k, (k < 21 ∨ 24 < k) → M2.1 0 k = M.1 0 k) ∧ M2.2.2 = M.2.2 ∧ (∀ a, ¬ a = 5 → ¬ a = 8 → ¬ a = 10 → ¬ a = 11 → M2.2.1 a = M.2.1 a) ∧ ∀ i, i < 112 → M2.2.1 5 i = M.2.1 5 i) → MH (mwH G B (Zf G B S0) t (now - t) H) M2 → (∀ u, u ≤ now → RM G (Zf G B S0 u) M2 (112 * u)) → NE (mtb H (mwH G B (Zf G B S0) t (now - t) H) now (4 * t) (4 * (now - t)) (lg.1 + 1, lg.2.1 + (now - t), max lg.2.2.1 (now - t), lg.2.2.2.1, lg.2.2.2.2)) M2 → Q none M2) : WP shM mX10_goBack 0 [some (.ref 0), some (.int (nI t)), none] [] M Q := by
  refine xi_iconst (v := 4) dX10_goBack_0 rfl ?_
  refine xi_iload_n dX10_goBack_1 rfl ?_
  refine xe_imul dX10_goBack_2 (v := nI (4 * t)) (pk_mul 4 t) ?_
  refine xi_istore_n (lv' := [some (.ref 0), some (.int (nI t)), some (.int (nI (4 * t)))]) dX10_goBack_3 (by decide) rfl ?_
  refine gl_1 (t := t) (H := H) hn (4 * (now - t)) (4 * t) M (by omega) (Nat.le_refl _) hno hH (fun i h1 h2 => by omega) (fun M1 F1 z1 => ?_)
  refine xi_iload_n dX10_goBack_32 rfl ?_
  refine xi_istore_n (lv' := [some (.ref 0), some (.int (nI t)), some (.int (nI t))]) dX10_goBack_33 (by decide) rfl ?_
  refine gl_2 (t := t) hW hw0 wB hn (now - t) t M1 H (by omega) (Nat.le_refl _) (by rw [F1.1]; exact hno) (hG.keep (by rw [F1.1]) (fun a ha => F1.2.2 a (by omega))) (hA.sm (F1.2.2 6 (by decide))) (hH.sm (F1.2.2 8 (by decide))) (fun u hu => (hR u hu).mv hW (fun j _ => by rw [F1.2.2 5 (by decide)])) (fun M2 F2 z2 r2 => ?_)
  refine xi_iconst (v := 4) dX10_goBack_53 rfl ?_
  refine xi_iload_n dX10_goBack_54 rfl ?_
  refine xe_imul dX10_goBack_55 (v := nI (4 * t)) (pk_mul 4 t) ?_
  refine xi_istore_n (lv' := [some (.ref 0), some (.int (nI t)), some (.int (nI (4 * t)))]) dX10_goBack_56 (by decide) rfl ?_
  have hno2 : M2.1 0 10 = nI now := by rw [F2.1, F1.1]; exact hno
  have hE2 : NB lg M2 := ⟨by rw [F2.1, F1.1]; exact hE.2.2.2.1, by rw [F2.2.2.1 10 (by decide) (by decide), F1.2.2 10 (by decide)]; exact hE.2.2.2.2⟩
  refine gl_3 (t := t) hn hB2 hHb hKb (4 * (now - t)) (4 * t) M2 lg (by omega) (Nat.le_refl _) hno2 z2 (by rw [F2.2.2.1 11 (by decide) (by decide)]; exact z1) hE2 (by omega) (fun M4 F4 E4 => ?_)
  have hno4 : M4.1 0 10 = nI now := (F4.1 10 (by decide)).trans hno2
  have f21 : M4.1 0 21 = nI lg.1 := by rw [F4.1 21 (by decide), F2.1, F1.1]; exact hE.1
  have f22 : M4.1 0 22 = nI lg.2.1 := by rw [F4.1 22 (by decide), F2.1, F1.1]; exact hE.2.1
  have f23 : M4.1 0 23 = nI lg.2.2.1 := by rw [F4.1 23 (by decide), F2.1, F1.1]; exact hE.2.2.1
  refine xi_aload_n dX10_goBack_184 rfl ?_
  refine xi_dup dX10_goBack_185 rfl ?_
  refine xe_getI (v := nI lg.1) dX10_goBack_186 fgX10_121 mm0 rfl (by first | exact f21 | (rw [xf_k (by decide)]; exact f21) | (rw [xf_k (by decide), xf_k (by decide)]; exact f21)) ?_
  refine xi_iconst (v := 1) dX10_goBack_189 rfl ?_
  refine xe_iadd dX10_goBack_190 (v := nI (lg.1 + 1)) (nI_add lg.1 1) ?_
  refine xi_put dX10_goBack_191 fpX10_121 mm0 rfl ?_
  refine xi_aload_n dX10_goBack_194 rfl ?_
  refine xi_dup dX10_goBack_195 rfl ?_
  refine xe_getI (v := nI lg.2.1) dX10_goBack_196 fgX10_124 mm0 rfl (by first | exact f22 | (rw [xf_k (by decide)]; exact f22) | (rw [xf_k (by decide), xf_k (by decide)]; exact f22)) ?_
  refine xi_aload_n dX10_goBack_199 rfl ?_
  refine xe_getI (v := nI now) dX10_goBack_200 fgX10_110 mm0 rfl hno4 ?_
  refine xat 203 rfl ?_
  refine xi_iload_n dX10_goBack_203 rfl ?_
  refine xe_isub dX10_goBack_204 (v := nI (now - t)) (pk_sub (by omega)) ?_
  refine xe_iadd dX10_goBack_205 (v := nI (lg.2.1 + (now - t))) (nI_add lg.2.1 (now - t)) ?_
  refine xi_put dX10_goBack_206 fpX10_124 mm0 rfl ?_
  refine xi_aload_n dX10_goBack_209 rfl ?_
  refine xi_aload_n dX10_goBack_210 rfl ?_
  refine xe_getI (v := nI now) dX10_goBack_211 fgX10_110 mm0 rfl hno4 ?_
  refine xi_iload_n dX10_goBack_214 rfl ?_
  refine xe_isub dX10_goBack_215 (v := nI (now - t)) (pk_sub (by omega)) ?_
  refine xi_aload_n dX10_goBack_216 rfl ?_
  refine xe_getI (v := nI lg.2.2.1) dX10_goBack_217 fgX10_127 mm0 rfl (by first | exact f23 | (rw [xf_k (by decide)]; exact f23) | (rw [xf_k (by decide), xf_k (by decide)]; exact f23)) ?_
  refine xn_icmp_le (now - t) lg.2.2.1 232 dX10_goBack_220 (by decide) rfl rfl (by omega) (by omega) (fun h220 => ?_) (fun h220 => ?_)
  · skip
    refine xi_aload_n dX10_goBack_232 rfl ?_
    refine xe_getI (v := nI lg.2.2.1) dX10_goBack_233 fgX10_127 mm0 rfl (by first | exact f23 | (rw [xf_k (by decide)]; exact f23) | (rw [xf_k (by decide), xf_k (by decide)]; exact f23)) ?_
    refine xi_put dX10_goBack_236 fpX10_127 mm0 rfl ?_
    refine xi_vret dX10_goBack_239 rfl ?_
    have emx : max lg.2.2.1 (now - t) = lg.2.2.1 := by omega
    refine h _ ⟨fun k hk => ?_, ?_, fun a a1 a2 a3 a4 => ?_, fun i hi => ?_⟩ (z2.sm (F4.2.2 8 (by decide))) (fun u hu => (r2 u hu).mv hW (fun j _ => by rw [xf_a, xf_a, xf_a, F4.2.2 5 (by decide)])) ?_
    · rw [xf_k (by omega), xf_k (by omega), xf_k (by omega), F4.1 k (by omega), F2.1, F1.1]
    · show M4.2.2 = _; rw [F4.2.1, F2.2.1, F1.2.1]
    · rw [xf_a, xf_a, xf_a, F4.2.2 a a3, F2.2.2.1 a a1 a2, F1.2.2 a a4]
    · rw [xf_a, xf_a, xf_a, F4.2.2 5 (by decide), F2.2.2.2 i hi, F1.2.2 5 (by decide)]
    · rw [emx, mtb_pre _ _ _ _ _ lg.1 lg.2.1 lg.2.2.1]
      refine ⟨by rw [xf_k (by decide), xf_k (by decide), xf_s], by rw [xf_k (by decide), xf_s], by rw [xf_s], by rw [xf_k (by decide), xf_k (by decide), xf_k (by decide)]; exact E4.1, by rw [xf_a, xf_a, xf_a]; exact E4.2⟩
  · skip
    refine xi_aload_n dX10_goBack_223 rfl ?_
    refine xe_getI (v := nI now) dX10_goBack_224 fgX10_110 mm0 rfl hno4 ?_
    refine xi_iload_n dX10_goBack_227 rfl ?_
    refine xe_isub dX10_goBack_228 (v := nI (now - t)) (pk_sub (by omega)) ?_
    refine xi_goto 236 dX10_goBack_229 (by decide) ?_
    refine xi_put dX10_goBack_236 fpX10_127 mm0 rfl ?_
    refine xi_vret dX10_goBack_239 rfl ?_
    have emx : max lg.2.2.1 (now - t) = now - t := by omega
    refine h _ ⟨fun k hk => ?_, ?_, fun a a1 a2 a3 a4 => ?_, fun i hi => ?_⟩ (z2.sm (F4.2.2 8 (by decide))) (fun u hu => (r2 u hu).mv hW (fun j _ => by rw [xf_a, xf_a, xf_a, F4.2.2 5 (by decide)])) ?_
    · rw [xf_k (by omega), xf_k (by omega), xf_k (by omega), F4.1 k (by omega), F2.1, F1.1]
    · show M4.2.2 = _; rw [F4.2.1, F2.2.1, F1.2.1]
    · rw [xf_a, xf_a, xf_a, F4.2.2 a a3, F2.2.2.1 a a1 a2, F1.2.2 a a4]
    · rw [xf_a, xf_a, xf_a, F4.2.2 5 (by decide), F2.2.2.2 i hi, F1.2.2 5 (by decide)]
    · rw [emx, mtb_pre _ _ _ _ _ lg.1 lg.2.1 lg.2.2.1]
      refine ⟨by rw [xf_k (by decide), xf_k (by decide), xf_s], by rw [xf_k (by decide), xf_s], by rw [xf_s], by rw [xf_k (by decide), xf_k (by decide), xf_k (by decide)]; exact E4.1, by rw [xf_a, xf_a, xf_a]; exact E4.2⟩

