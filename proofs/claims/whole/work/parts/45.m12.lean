set_option maxHeartbeats 4000000 in
set_option maxRecDepth 100000 in
theorem n_crafted {G : xG} {S : xS} {M : xM} {s : Nat} {Q : Option Value → xM → Prop} (hW : wG G) (hG : MG G M) (hs : s ≤ 56000) (hS : RM G S M s) (hw : wS G S) {p c : Nat} (hp : p < gP G) (hc : c < 1024) (h : Q (some (.int (xb (mforb G S p c)))) M) : WP shM mX10_isCrafted 0 [some (.ref 0), some (.int (nI s)), some (.int (nI p)), some (.int (nI (c % 16))), some (.int (nI (c / 16 % 4))), none, none, none] [] M Q := by
  obtain ⟨b1, b2, b3, b4, b5, b6, b7, b8, b9, wmap, wlink, wk0, wk1, b10, b11, wword⟩ := id hW
  have hmp := mpos_P hW hw hp
  refine xi_iload_n dX10_isCrafted_0 rfl ?_
  refine xi_bipush (v := 6) dX10_isCrafted_1 (by decide) ?_
  refine xi_iload_n dX10_isCrafted_3 rfl ?_
  refine xe_imul dX10_isCrafted_4 (v := nI (6 * p)) (pk_mul 6 p) ?_
  refine xe_iadd dX10_isCrafted_5 (v := nI (s + (6 * p))) (nI_add s (6 * p)) ?_
  refine xi_istore (lv' := [some (.ref 0), some (.int (nI s)), some (.int (nI p)), some (.int (nI (c % 16))), some (.int (nI (c / 16 % 4))), some (.int (nI (s + (6 * p)))), none, none]) dX10_isCrafted_6 (by decide) rfl ?_
  refine xi_aload_n dX10_isCrafted_8 rfl ?_
  refine xi_getR dX10_isCrafted_9 fgX10_39 mm0 rfl ?_
  refine xi_iload dX10_isCrafted_12 rfl ?_
  refine xi_iconst (v := 4) dX10_isCrafted_14 rfl ?_
  refine xe_iadd dX10_isCrafted_15 (v := nI (s + (6 * p) + 4)) (nI_add (s + (6 * p)) 4) ?_
  refine xat 16 rfl ?_
  obtain ⟨o1, ho1⟩ : ∃ o, o = sH S p := ⟨_, rfl⟩
  refine xe_iald (v := xo o1) (s + (6 * p) + 4) dX10_isCrafted_16 mm5 (by decide) rfl (by omega) (by rw [ho1]; exact rmH hS (by omega)) ?_
  have hox := ho1
  refine xi_istore (lv' := [some (.ref 0), some (.int (nI s)), some (.int (nI p)), some (.int (nI (c % 16))), some (.int (nI (c / 16 % 4))), some (.int (nI (s + (6 * p)))), some (.int (xo o1)), none]) dX10_isCrafted_17 (by decide) rfl ?_
  refine xi_aload_n dX10_isCrafted_19 rfl ?_
  refine xi_aload_n dX10_isCrafted_20 rfl ?_
  refine xi_getR dX10_isCrafted_21 fgX10_39 mm0 rfl ?_
  refine xi_iload dX10_isCrafted_24 rfl ?_
  refine xi_iconst (v := 0) dX10_isCrafted_26 rfl ?_
  refine xe_iadd dX10_isCrafted_27 (v := nI (s + (6 * p) + 0)) (nI_add (s + (6 * p)) 0) ?_
  refine xe_iald (v := nI (mpos S p)) (s + (6 * p) + 0) dX10_isCrafted_28 mm5 (by decide) rfl (by omega) ((rmC hS (by omega)).trans hmp.1) ?_
  refine xi_iload dX10_isCrafted_29 rfl ?_
  refine xi_callV [.int (nI (mpos S p)), .int (nI (c / 16 % 4))] [] dX10_isCrafted_31 zX10_nextTo mlX10_192 mm0 rfl rfl rfl rfl rfl (Nat.le_of_ble_eq_true rfl) (Nat.le_of_ble_eq_true rfl) ⟨by decide, by decide⟩ ?_
  refine n_next hW hG (k := mpos S p) (d := c / 16 % 4) (by omega) (by omega) ?_
  show WP _ _ 34 _ [.int (xo (mnext G (mpos S p) (c / 16 % 4)))] _ _
  generalize eo31 : mnext G (mpos S p) (c / 16 % 4) = o31
  refine xi_istore (lv' := [some (.ref 0), some (.int (nI s)), some (.int (nI p)), some (.int (nI (c % 16))), some (.int (nI (c / 16 % 4))), some (.int (nI (s + (6 * p)))), some (.int (xo o1)), some (.int (xo o31))]) dX10_isCrafted_34 (by decide) rfl ?_
  refine xi_iload_n dX10_isCrafted_36 rfl ?_
  by_cases h37_2 : c % 16 = 2
  · refine xi_tableIn 72 0 dX10_isCrafted_37 (by rw [nI_toInt (by omega), h37_2]; rfl) (by decide) rfl (by decide) ?_
    refine xi_aload_n dX10_isCrafted_72 rfl ?_
    refine xi_getR dX10_isCrafted_73 fgX10_39 mm0 rfl ?_
    refine xi_iload dX10_isCrafted_76 rfl ?_
    refine xi_iconst (v := 3) dX10_isCrafted_78 rfl ?_
    refine xe_iadd dX10_isCrafted_79 (v := nI (s + (6 * p) + 3)) (nI_add (s + (6 * p)) 3) ?_
    have q2 := (hw).2.2.2.1 p (by omega)
    refine xe_iald (v := nI (sR S p)) (s + (6 * p) + 3) dX10_isCrafted_80 mm5 (by decide) rfl (by omega) (rmR hS (by omega)) ?_
    refine xn_if_le (sR S p) 88 dX10_isCrafted_81 (by decide) rfl (by omega) (fun h81 => ?_) (fun h81 => ?_)
    · skip
      refine xi_iconst (v := 0) dX10_isCrafted_88 rfl ?_
      refine xi_zret (v := 0) dX10_isCrafted_89 rfl (by decide) ?_
      have e : mforb G S p c = false := by
        unfold mforb
        rw [h37_2]
        simp; omega
      rw [e] at h
      exact h
    · skip
      refine xi_iconst (v := 1) dX10_isCrafted_84 rfl ?_
      refine xi_goto 89 dX10_isCrafted_85 (by decide) ?_
      refine xi_zret (v := 1) dX10_isCrafted_89 rfl (by decide) ?_
      have e : mforb G S p c = true := by
        unfold mforb
        rw [h37_2]
        simp; omega
      rw [e] at h
      exact h
  by_cases h37_3 : c % 16 = 3
  · refine xi_tableIn 90 1 dX10_isCrafted_37 (by rw [nI_toInt (by omega), h37_3]; rfl) (by decide) rfl (by decide) ?_
    refine xi_iload dX10_isCrafted_90 rfl ?_
    refine xo_if_lt o31 106 dX10_isCrafted_92 (by decide) rfl (fun j z => by have := mnext_lt hW hmp.2 (eo31.trans z); omega) (fun h92 => ?_) (fun k h92 => ?_)
    · subst h92
      refine xi_iconst (v := 1) dX10_isCrafted_106 rfl ?_
      refine xi_goto 111 dX10_isCrafted_107 (by decide) ?_
      refine xi_zret (v := 1) dX10_isCrafted_111 rfl (by decide) ?_
      have e : mforb G S p c = true := by
        unfold mforb
        rw [h37_3]
        show (!mdoorO G (mnext G (mpos S p) (c / 16 % 4))) = _
        rw [eo31]
        rfl
      rw [e] at h
      exact h
    · subst h92
      have hk := mnext_lt hW hmp.2 eo31
      refine xi_aload_n dX10_isCrafted_95 rfl ?_
      refine xi_getR dX10_isCrafted_96 fgX10_19 mm0 rfl ?_
      refine xi_iload dX10_isCrafted_99 rfl ?_
      have q3 := wmap k (by omega)
      refine xe_iald (v := nI (gmap G k)) k dX10_isCrafted_101 mm1 (by decide) rfl (by omega) (mg_map hG (by omega)) ?_
      refine xi_iconst (v := 2) dX10_isCrafted_102 rfl ?_
      refine xn_icmp_eq (gmap G k) 2 110 dX10_isCrafted_103 (by decide) rfl rfl (by omega) (by omega) (fun h103 => ?_) (fun h103 => ?_)
      · skip
        refine xi_iconst (v := 0) dX10_isCrafted_110 rfl ?_
        refine xi_zret (v := 0) dX10_isCrafted_111 rfl (by decide) ?_
        have e : mforb G S p c = false := by
          unfold mforb
          rw [h37_3]
          show (!mdoorO G (mnext G (mpos S p) (c / 16 % 4))) = _
          rw [eo31]
          simp [mdoorO, h103]
        rw [e] at h
        exact h
      · skip
        refine xi_iconst (v := 1) dX10_isCrafted_106 rfl ?_
        refine xi_goto 111 dX10_isCrafted_107 (by decide) ?_
        refine xi_zret (v := 1) dX10_isCrafted_111 rfl (by decide) ?_
        have e : mforb G S p c = true := by
          unfold mforb
          rw [h37_3]
          show (!mdoorO G (mnext G (mpos S p) (c / 16 % 4))) = _
          rw [eo31]
          simp [mdoorO, h103]
        rw [e] at h
        exact h
  by_cases h37_4 : c % 16 = 4
  · refine xi_tableIn 112 2 dX10_isCrafted_37 (by rw [nI_toInt (by omega), h37_4]; rfl) (by decide) rfl (by decide) ?_
    refine xi_iload dX10_isCrafted_112 rfl ?_
    refine xo_if_lt o1 121 dX10_isCrafted_114 (by decide) rfl (fun j q => by have := hw.2.2.2.2 p hp j (hox.symm.trans q); omega) (fun h114 => ?_) (fun j h114 => ?_)
    · subst h114
      refine xi_iconst (v := 0) dX10_isCrafted_121 rfl ?_
      refine xi_zret (v := 0) dX10_isCrafted_122 rfl (by decide) ?_
      have e : mforb G S p c = false := by
        unfold mforb
        rw [h37_4]
        rw [← hox]
        rfl
      rw [e] at h
      exact h
    · subst h114
      refine xi_iconst (v := 1) dX10_isCrafted_117 rfl ?_
      refine xi_goto 122 dX10_isCrafted_118 (by decide) ?_
      refine xi_zret (v := 1) dX10_isCrafted_122 rfl (by decide) ?_
      have e : mforb G S p c = true := by
        unfold mforb
        rw [h37_4]
        rw [← hox]
        rfl
      rw [e] at h
      exact h
  by_cases h37_5 : c % 16 = 5
  · refine xi_tableIn 123 3 dX10_isCrafted_37 (by rw [nI_toInt (by omega), h37_5]; rfl) (by decide) rfl (by decide) ?_
    refine xi_iload dX10_isCrafted_123 rfl ?_
    refine xo_if_ge o1 132 dX10_isCrafted_125 (by decide) rfl (fun j q => by have := hw.2.2.2.2 p hp j (hox.symm.trans q); omega) (fun j h125 => ?_) (fun h125 => ?_)
    · subst h125
      refine xi_iconst (v := 0) dX10_isCrafted_132 rfl ?_
      refine xi_zret (v := 0) dX10_isCrafted_133 rfl (by decide) ?_
      have e : mforb G S p c = false := by
        unfold mforb
        rw [h37_5]
        rw [← hox]
        rfl
      rw [e] at h
      exact h
    · subst h125
      refine xi_iconst (v := 1) dX10_isCrafted_128 rfl ?_
      refine xi_goto 133 dX10_isCrafted_129 (by decide) ?_
      refine xi_zret (v := 1) dX10_isCrafted_133 rfl (by decide) ?_
      have e : mforb G S p c = true := by
        unfold mforb
        rw [h37_5]
        rw [← hox]
        rfl
      rw [e] at h
      exact h
  by_cases h37_6 : c % 16 = 6
  · refine xi_tableIn 134 4 dX10_isCrafted_37 (by rw [nI_toInt (by omega), h37_6]; rfl) (by decide) rfl (by decide) ?_
    refine xi_iload dX10_isCrafted_134 rfl ?_
    refine xo_if_lt o1 150 dX10_isCrafted_136 (by decide) rfl (fun j q => by have := hw.2.2.2.2 p hp j (hox.symm.trans q); omega) (fun h136 => ?_) (fun j h136 => ?_)
    · subst h136
      refine xi_iconst (v := 1) dX10_isCrafted_150 rfl ?_
      refine xi_goto 155 dX10_isCrafted_151 (by decide) ?_
      refine xi_zret (v := 1) dX10_isCrafted_155 rfl (by decide) ?_
      have e : mforb G S p c = true := by
        unfold mforb
        rw [h37_6]
        show (!mcar G S p 5) = _
        unfold mcar
        rw [← hox]
        rfl
      rw [e] at h
      exact h
    · subst h136
      have hj := hw.2.2.2.2 p hp j hox.symm
      refine xi_aload_n dX10_isCrafted_139 rfl ?_
      refine xi_getR dX10_isCrafted_140 fgX10_29 mm0 rfl ?_
      refine xi_iload dX10_isCrafted_143 rfl ?_
      have q4 : gkind G j ≤ 7 := hW.kind (by omega)
      refine xe_iald (v := nI (gkind G j)) j dX10_isCrafted_145 mm4 (by decide) rfl (by omega) (mg_kind hG (by omega)) ?_
      refine xi_iconst (v := 5) dX10_isCrafted_146 rfl ?_
      refine xn_icmp_eq (gkind G j) 5 154 dX10_isCrafted_147 (by decide) rfl rfl (by omega) (by omega) (fun h147 => ?_) (fun h147 => ?_)
      · skip
        refine xi_iconst (v := 0) dX10_isCrafted_154 rfl ?_
        refine xi_zret (v := 0) dX10_isCrafted_155 rfl (by decide) ?_
        have e : mforb G S p c = false := by
          unfold mforb
          rw [h37_6]
          show (!mcar G S p 5) = _
          unfold mcar
          rw [← hox]
          simp [h147]
        rw [e] at h
        exact h
      · skip
        refine xi_iconst (v := 1) dX10_isCrafted_150 rfl ?_
        refine xi_goto 155 dX10_isCrafted_151 (by decide) ?_
        refine xi_zret (v := 1) dX10_isCrafted_155 rfl (by decide) ?_
        have e : mforb G S p c = true := by
          unfold mforb
          rw [h37_6]
          show (!mcar G S p 5) = _
          unfold mcar
          rw [← hox]
          simp [h147]
        rw [e] at h
        exact h
  refine xi_tableOut 156 dX10_isCrafted_37 (by decide) (by rw [nI_toInt (by omega)]; omega) ?_
  refine xi_iconst (v := 0) dX10_isCrafted_156 rfl ?_
  refine xi_zret (v := 0) dX10_isCrafted_157 rfl (by decide) ?_
  have e : mforb G S p c = false := by
    unfold mforb
    split <;> first | rfl | (exfalso; omega)
  rw [e] at h
  exact h

