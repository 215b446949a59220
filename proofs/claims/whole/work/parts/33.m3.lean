theorem wG.isP {G : xG} (h : wG G) {n : Nat} (hn : n < gT G) (hk : gkind G n = 0) : n < gP G := by
  by_cases q : n < gP G
  · exact q
  · have := (h.2.2.2.2.2.2.2.2.2.2.2.2.1 n (by omega) hn).1; omega
theorem mHn_some {G : xG} {S : xS} {n j : Nat} (hw : wS G S) (h : mHn G S n = some j) : n < gP G ∧ sH S n = some j ∧ j < gT G ∧ 5 ≤ gkind G j := by
  unfold mHn at h
  split at h
  · rename_i q
    exact ⟨q, h, hw.2.2.2.2 n q j h⟩
  · cases h
theorem nI_nn {k : Nat} (h : k < 2 ^ 31) : (0 : Int32) ≤ nI k := nI_pos' h
set_option maxHeartbeats 4000000 in
set_option maxRecDepth 100000 in
theorem n_drop {G : xG} {S : xS} {M : xM} {s : Nat} {Q : Option Value → xM → Prop} (hW : wG G) (hG : MG G M) (hs : s ≤ 56000) (hS : RM G S M s) (hw : wS G S) {p j : Nat} (hp : p < gP G) (hj : sH S p = some j) (h : ∀ M2, Fm s M M2 → RM G (mlet S p (sC S p)) M2 s → Q none M2) : WP shM mX10_drop 0 [some (.ref 0), some (.int (nI s)), some (.int (nI p)), none] [] M Q := by
  obtain ⟨b1, b2, b3, b4, b5, b6, b7, b8, b9, wmap, wlink, wk0, wk1, b10, b11, wword⟩ := id hW
  have hjj := hw.2.2.2.2 p hp j hj
  refine xi_aload_n dX10_drop_0 rfl ?_
  refine xi_getR dX10_drop_1 fgX10_39 mm0 rfl ?_
  refine xi_iload_n dX10_drop_4 rfl ?_
  refine xi_bipush (v := 6) dX10_drop_5 (by decide) ?_
  refine xi_iload_n dX10_drop_7 rfl ?_
  refine xe_imul dX10_drop_8 (v := nI (6 * p)) (pk_mul 6 p) ?_
  refine xe_iadd dX10_drop_9 (v := nI (s + (6 * p))) (nI_add s (6 * p)) ?_
  refine xi_iconst (v := 4) dX10_drop_10 rfl ?_
  refine xe_iadd dX10_drop_11 (v := nI (s + (6 * p) + 4)) (nI_add (s + (6 * p)) 4) ?_
  refine xe_iald (v := nI j) (s + (6 * p) + 4) dX10_drop_12 mm5 (by decide) rfl (by omega) ((rmH hS (by omega)).trans (by rw [hj]; rfl)) ?_
  refine xi_istore_n (lv' := [some (.ref 0), some (.int (nI s)), some (.int (nI p)), some (.int (nI j))]) dX10_drop_13 (by decide) rfl ?_
  refine xat 14 rfl ?_
  refine xi_aload_n dX10_drop_14 rfl ?_
  refine xi_getR dX10_drop_15 fgX10_39 mm0 rfl ?_
  refine xi_iload_n dX10_drop_18 rfl ?_
  refine xi_bipush (v := 6) dX10_drop_19 (by decide) ?_
  refine xi_iload_n dX10_drop_21 rfl ?_
  refine xe_imul dX10_drop_22 (v := nI (6 * p)) (pk_mul 6 p) ?_
  refine xe_iadd dX10_drop_23 (v := nI (s + (6 * p))) (nI_add s (6 * p)) ?_
  refine xi_iconst (v := 4) dX10_drop_24 rfl ?_
  refine xe_iadd dX10_drop_25 (v := nI (s + (6 * p) + 4)) (nI_add (s + (6 * p)) 4) ?_
  refine xi_iconst (v := (-1)) dX10_drop_26 rfl ?_
  refine xe_iast (s + (6 * p) + 4) dX10_drop_27 mm5 (by decide) rfl (by omega) ?_
  generalize eM1 : (xa M 5 (upd (M.2.1 5) (s + (6 * p) + 4) (-1))) = M1
  have hS1 : RM G (uH S p none) M1 s := by rw [← eM1]; exact rmuH hW hS (by omega) none
  have hF1 : Fm s M M1 := by rw [← eM1]; exact Fm.xa (by omega) (by omega)
  have hG1 : MG G M1 := MG.fm hG hF1
  refine xi_aload_n dX10_drop_28 rfl ?_
  refine xat 29 rfl ?_
  refine xi_getR dX10_drop_29 fgX10_39 mm0 rfl ?_
  refine xi_iload_n dX10_drop_32 rfl ?_
  refine xi_bipush (v := 6) dX10_drop_33 (by decide) ?_
  refine xi_iload_n dX10_drop_35 rfl ?_
  refine xe_imul dX10_drop_36 (v := nI (6 * j)) (pk_mul 6 j) ?_
  refine xe_iadd dX10_drop_37 (v := nI (s + (6 * j))) (nI_add s (6 * j)) ?_
  refine xi_iconst (v := 5) dX10_drop_38 rfl ?_
  refine xe_iadd dX10_drop_39 (v := nI (s + (6 * j) + 5)) (nI_add (s + (6 * j)) 5) ?_
  refine xi_iconst (v := (-1)) dX10_drop_40 rfl ?_
  refine xe_iast (s + (6 * j) + 5) dX10_drop_41 mm5 (by decide) rfl (by omega) ?_
  generalize eM2 : (xa M1 5 (upd (M1.2.1 5) (s + (6 * j) + 5) (-1))) = M2
  have hS2 : RM G (uB (uH S p none) j none) M2 s := by rw [← eM2]; exact rmuB hW hS1 (by omega) none
  have hF2 : Fm s M1 M2 := by rw [← eM2]; exact Fm.xa (by omega) (by omega)
  have hG2 : MG G M2 := MG.fm hG1 hF2
  refine xi_aload_n dX10_drop_42 rfl ?_
  refine xi_getR dX10_drop_43 fgX10_39 mm0 rfl ?_
  refine xat 46 rfl ?_
  refine xi_iload_n dX10_drop_46 rfl ?_
  refine xi_bipush (v := 6) dX10_drop_47 (by decide) ?_
  refine xi_iload_n dX10_drop_49 rfl ?_
  refine xe_imul dX10_drop_50 (v := nI (6 * j)) (pk_mul 6 j) ?_
  refine xe_iadd dX10_drop_51 (v := nI (s + (6 * j))) (nI_add s (6 * j)) ?_
  refine xi_iconst (v := 0) dX10_drop_52 rfl ?_
  refine xe_iadd dX10_drop_53 (v := nI (s + (6 * j) + 0)) (nI_add (s + (6 * j)) 0) ?_
  refine xi_aload_n dX10_drop_54 rfl ?_
  refine xi_getR dX10_drop_55 fgX10_39 mm0 rfl ?_
  refine xi_iload_n dX10_drop_58 rfl ?_
  refine xi_bipush (v := 6) dX10_drop_59 (by decide) ?_
  refine xi_iload_n dX10_drop_61 rfl ?_
  refine xat 62 rfl ?_
  refine xe_imul dX10_drop_62 (v := nI (6 * p)) (pk_mul 6 p) ?_
  refine xe_iadd dX10_drop_63 (v := nI (s + (6 * p))) (nI_add s (6 * p)) ?_
  refine xi_iconst (v := 0) dX10_drop_64 rfl ?_
  refine xe_iadd dX10_drop_65 (v := nI (s + (6 * p) + 0)) (nI_add (s + (6 * p)) 0) ?_
  refine xe_iald (v := sC S p) (s + (6 * p) + 0) dX10_drop_66 mm5 (by decide) rfl (by omega) (rmC hS2 (by omega)) ?_
  refine xe_iast (s + (6 * j) + 0) dX10_drop_67 mm5 (by decide) rfl (by omega) ?_
  generalize eM3 : (xa M2 5 (upd (M2.2.1 5) (s + (6 * j) + 0) (sC S p))) = M3
  have hS3 : RM G (uC (uB (uH S p none) j none) j (sC S p)) M3 s := by rw [← eM3]; exact rmuC hW hS2 (by omega) (sC S p)
  have hF3 : Fm s M2 M3 := by rw [← eM3]; exact Fm.xa (by omega) (by omega)
  have hG3 : MG G M3 := MG.fm hG2 hF3
  refine xi_vret dX10_drop_68 rfl ?_
  have e : mlet S p (sC S p) = (uC (uB (uH S p none) j none) j (sC S p)) := by simp [mlet, hj]
  rw [e] at h
  exact h M3 ((hF1.tr hF2).tr hF3) hS3

set_option maxHeartbeats 4000000 in
set_option maxRecDepth 100000 in
theorem n_lose {G : xG} {S : xS} {M : xM} {s : Nat} {Q : Option Value → xM → Prop} (hW : wG G) (hG : MG G M) (hs : s ≤ 56000) (hS : RM G S M s) (hw : wS G S) {n l : Nat} (hn : n < gT G) (hl : l ≤ 5) (h : ∀ M2, Fm s M M2 → RM G (mhurt G S n l) M2 s → Q none M2) : WP shM mX10_lose 0 [some (.ref 0), some (.int (nI s)), some (.int (nI n)), some (.int (nI l)), none] [] M Q := by
  obtain ⟨b1, b2, b3, b4, b5, b6, b7, b8, b9, wmap, wlink, wk0, wk1, b10, b11, wword⟩ := id hW
  refine xi_iload_n dX10_lose_0 rfl ?_
  refine xi_bipush (v := 6) dX10_lose_1 (by decide) ?_
  refine xi_iload_n dX10_lose_3 rfl ?_
  refine xe_imul dX10_lose_4 (v := nI (6 * n)) (pk_mul 6 n) ?_
  refine xe_iadd dX10_lose_5 (v := nI (s + (6 * n))) (nI_add s (6 * n)) ?_
  refine xi_istore (lv' := [some (.ref 0), some (.int (nI s)), some (.int (nI n)), some (.int (nI l)), some (.int (nI (s + (6 * n))))]) dX10_lose_6 (by decide) rfl ?_
  refine xi_aload_n dX10_lose_8 rfl ?_
  refine xi_getR dX10_lose_9 fgX10_39 mm0 rfl ?_
  refine xi_iload dX10_lose_12 rfl ?_
  refine xi_iconst (v := 1) dX10_lose_14 rfl ?_
  refine xe_iadd dX10_lose_15 (v := nI (s + (6 * n) + 1)) (nI_add (s + (6 * n)) 1) ?_
  refine xat 16 rfl ?_
  refine xi_aload_n dX10_lose_16 rfl ?_
  refine xi_getR dX10_lose_17 fgX10_39 mm0 rfl ?_
  refine xi_iload dX10_lose_20 rfl ?_
  refine xi_iconst (v := 1) dX10_lose_22 rfl ?_
  refine xe_iadd dX10_lose_23 (v := nI (s + (6 * n) + 1)) (nI_add (s + (6 * n)) 1) ?_
  have q1 := (hw).2.1 n (by omega)
  refine xe_iald (v := nI (sL S n)) (s + (6 * n) + 1) dX10_lose_24 mm5 (by decide) rfl (by omega) (rmL hS (by omega)) ?_
  refine xi_iload_n dX10_lose_25 rfl ?_
  refine xn_icmp_le (sL S n) l 43 dX10_lose_26 (by decide) rfl rfl (by omega) (by omega) (fun h26 => ?_) (fun h26 => ?_)
  · skip
    refine xi_iconst (v := 0) dX10_lose_43 rfl ?_
    refine xtop (y := nI (sL S n - l)) (by rw [show sL S n - l = 0 by omega]; rfl) ?_
    refine xe_iast (s + (6 * n) + 1) dX10_lose_44 mm5 (by decide) rfl (by omega) ?_
    generalize eM2 : (xa M 5 (upd (M.2.1 5) (s + (6 * n) + 1) (nI (sL S n - l)))) = M2
    have hS2 : RM G (uL S n (sL S n - l)) M2 s := by rw [← eM2]; exact rmuL hW hS (by omega) (sL S n - l)
    have hF2 : Fm s M M2 := by rw [← eM2]; exact Fm.xa (by omega) (by omega)
    have hG2 : MG G M2 := MG.fm hG hF2
    have hw2 : wS G (uL S n (sL S n - l)) := (wS_uL hw (by omega) (fun q => hw.2.2.1 n hn (by omega)))
    refine xi_aload_n dX10_lose_45 rfl ?_
    refine xi_getR dX10_lose_46 fgX10_39 mm0 rfl ?_
    refine xi_iload dX10_lose_49 rfl ?_
    refine xi_iconst (v := 1) dX10_lose_51 rfl ?_
    refine xe_iadd dX10_lose_52 (v := nI (s + (6 * n) + 1)) (nI_add (s + (6 * n)) 1) ?_
    refine xe_iald (v := nI (sL S n - l)) (s + (6 * n) + 1) dX10_lose_53 mm5 (by decide) rfl (by omega) (by rw [rmL hS2 (by omega), sL_uL, up_s]) ?_
    refine xn_if_ne (sL S n - l) 75 dX10_lose_54 (by decide) rfl (by omega) (fun h54 => ?_) (fun h54 => ?_)
    · skip
      refine xi_vret dX10_lose_75 rfl ?_
      have e : mhurt G S n l = (uL S n (sL S n - l)) := by unfold mhurt; rw [if_neg (fun q => h54 q.1)]
      rw [e] at h
      exact h M2 hF2 hS2
    · skip
      refine xi_aload_n dX10_lose_57 rfl ?_
      refine xi_getR dX10_lose_58 fgX10_39 mm0 rfl ?_
      refine xi_iload dX10_lose_61 rfl ?_
      refine xi_iconst (v := 4) dX10_lose_63 rfl ?_
      refine xe_iadd dX10_lose_64 (v := nI (s + (6 * n) + 4)) (nI_add (s + (6 * n)) 4) ?_
      obtain ⟨o3, ho3⟩ : ∃ o, o = mHn G (uL S n (sL S n - l)) n := ⟨_, rfl⟩
      refine xe_iald (v := xo o3) (s + (6 * n) + 4) dX10_lose_65 mm5 (by decide) rfl (by omega) (by rw [ho3]; exact rmHn hS2 (by omega)) ?_
      have hox := ho3
      refine xo_if_lt o3 75 dX10_lose_66 (by decide) rfl (fun j q => by have h1 : mHn G S n = some j := hox.symm.trans q; have := mHn_some hw h1; omega) (fun h66 => ?_) (fun j h66 => ?_)
      · subst h66
        refine xi_vret dX10_lose_75 rfl ?_
        have e : mhurt G S n l = (uL S n (sL S n - l)) := by
          unfold mhurt
          split
          · rename_i q
            have hz : sH S n = none := by have := hox; rw [show mHn G (uL S n (sL S n - l)) n = if n < gP G then sH S n else none from rfl, if_pos q.2] at this; exact this.symm
            rw [show mlet (uL S n (sL S n - l)) n (sC S n) = uL S n (sL S n - l) by unfold mlet; rw [show sH (uL S n (sL S n - l)) n = none from hz]]
          · rfl
        rw [e] at h
        exact h M2 hF2 hS2
      · subst h66
        have hnP : n < gP G := by
          by_cases z : n < gP G
          · exact z
          · rw [mHn, if_neg z] at hox; cases hox
        have hj : sH (uL S n (sL S n - l)) n = some j := by rw [mHn, if_pos hnP] at hox; exact hox.symm
        refine xi_aload_n dX10_lose_69 rfl ?_
        refine xi_iload_n dX10_lose_70 rfl ?_
        refine xi_iload_n dX10_lose_71 rfl ?_
        refine xi_callV [.int (nI s), .int (nI n)] [] dX10_lose_72 zX10_drop mlX10_182 mm0 rfl rfl rfl rfl rfl (Nat.le_of_ble_eq_true rfl) (Nat.le_of_ble_eq_true rfl) ⟨by decide, by decide⟩ ?_
        refine n_drop hW hG2 hs hS2 hw2 (p := n) (by omega) hj (fun M4 hF4 hS4 => ?_)
        have hG4 : MG G M4 := MG.fm hG2 hF4
        have hw4 : wS G (mlet (uL S n (sL S n - l)) n (sC (uL S n (sL S n - l)) n)) := wS_let hw2 (by omega)
        show WP _ _ 75 _ [] _ _
        refine xi_vret dX10_lose_75 rfl ?_
        have e : mhurt G S n l = (mlet (uL S n (sL S n - l)) n (sC (uL S n (sL S n - l)) n)) := by unfold mhurt; rw [if_pos ⟨h54, hnP⟩]; rfl
        rw [e] at h
        exact h M4 (hF2.tr hF4) hS4
  · skip
    refine xi_aload_n dX10_lose_29 rfl ?_
    refine xi_getR dX10_lose_30 fgX10_39 mm0 rfl ?_
    refine xi_iload dX10_lose_33 rfl ?_
    refine xi_iconst (v := 1) dX10_lose_35 rfl ?_
    refine xe_iadd dX10_lose_36 (v := nI (s + (6 * n) + 1)) (nI_add (s + (6 * n)) 1) ?_
    have q5 := (hw).2.1 n (by omega)
    refine xe_iald (v := nI (sL S n)) (s + (6 * n) + 1) dX10_lose_37 mm5 (by decide) rfl (by omega) (rmL hS (by omega)) ?_
    refine xi_iload_n dX10_lose_38 rfl ?_
    refine xe_isub dX10_lose_39 (v := nI (sL S n - l)) (pk_sub (by omega)) ?_
    refine xi_goto 44 dX10_lose_40 (by decide) ?_
    refine xe_iast (s + (6 * n) + 1) dX10_lose_44 mm5 (by decide) rfl (by omega) ?_
    generalize eM6 : (xa M 5 (upd (M.2.1 5) (s + (6 * n) + 1) (nI (sL S n - l)))) = M6
    have hS6 : RM G (uL S n (sL S n - l)) M6 s := by rw [← eM6]; exact rmuL hW hS (by omega) (sL S n - l)
    have hF6 : Fm s M M6 := by rw [← eM6]; exact Fm.xa (by omega) (by omega)
    have hG6 : MG G M6 := MG.fm hG hF6
    have hw6 : wS G (uL S n (sL S n - l)) := (wS_uL hw (by omega) (fun q => hw.2.2.1 n hn (by omega)))
    refine xi_aload_n dX10_lose_45 rfl ?_
    refine xi_getR dX10_lose_46 fgX10_39 mm0 rfl ?_
    refine xi_iload dX10_lose_49 rfl ?_
    refine xi_iconst (v := 1) dX10_lose_51 rfl ?_
    refine xe_iadd dX10_lose_52 (v := nI (s + (6 * n) + 1)) (nI_add (s + (6 * n)) 1) ?_
    refine xe_iald (v := nI (sL S n - l)) (s + (6 * n) + 1) dX10_lose_53 mm5 (by decide) rfl (by omega) (by rw [rmL hS6 (by omega), sL_uL, up_s]) ?_
    refine xn_if_ne (sL S n - l) 75 dX10_lose_54 (by decide) rfl (by omega) (fun h54 => ?_) (fun h54 => ?_)
    · skip
      refine xi_vret dX10_lose_75 rfl ?_
      have e : mhurt G S n l = (uL S n (sL S n - l)) := by unfold mhurt; rw [if_neg (fun q => h54 q.1)]
      rw [e] at h
      exact h M6 hF6 hS6
    · skip
      refine xi_aload_n dX10_lose_57 rfl ?_
      refine xi_getR dX10_lose_58 fgX10_39 mm0 rfl ?_
      refine xi_iload dX10_lose_61 rfl ?_
      refine xi_iconst (v := 4) dX10_lose_63 rfl ?_
      refine xe_iadd dX10_lose_64 (v := nI (s + (6 * n) + 4)) (nI_add (s + (6 * n)) 4) ?_
      obtain ⟨o7, ho7⟩ : ∃ o, o = mHn G (uL S n (sL S n - l)) n := ⟨_, rfl⟩
      refine xe_iald (v := xo o7) (s + (6 * n) + 4) dX10_lose_65 mm5 (by decide) rfl (by omega) (by rw [ho7]; exact rmHn hS6 (by omega)) ?_
      have hox := ho7
      refine xo_if_lt o7 75 dX10_lose_66 (by decide) rfl (fun j q => by have h1 : mHn G S n = some j := hox.symm.trans q; have := mHn_some hw h1; omega) (fun h66 => ?_) (fun j h66 => ?_)
      · subst h66
        refine xi_vret dX10_lose_75 rfl ?_
        have e : mhurt G S n l = (uL S n (sL S n - l)) := by
          unfold mhurt
          split
          · rename_i q
            have hz : sH S n = none := by have := hox; rw [show mHn G (uL S n (sL S n - l)) n = if n < gP G then sH S n else none from rfl, if_pos q.2] at this; exact this.symm
            rw [show mlet (uL S n (sL S n - l)) n (sC S n) = uL S n (sL S n - l) by unfold mlet; rw [show sH (uL S n (sL S n - l)) n = none from hz]]
          · rfl
        rw [e] at h
        exact h M6 hF6 hS6
      · subst h66
        have hnP : n < gP G := by
          by_cases z : n < gP G
          · exact z
          · rw [mHn, if_neg z] at hox; cases hox
        have hj : sH (uL S n (sL S n - l)) n = some j := by rw [mHn, if_pos hnP] at hox; exact hox.symm
        refine xi_aload_n dX10_lose_69 rfl ?_
        refine xi_iload_n dX10_lose_70 rfl ?_
        refine xi_iload_n dX10_lose_71 rfl ?_
        refine xi_callV [.int (nI s), .int (nI n)] [] dX10_lose_72 zX10_drop mlX10_182 mm0 rfl rfl rfl rfl rfl (Nat.le_of_ble_eq_true rfl) (Nat.le_of_ble_eq_true rfl) ⟨by decide, by decide⟩ ?_
        refine n_drop hW hG6 hs hS6 hw6 (p := n) (by omega) hj (fun M8 hF8 hS8 => ?_)
        have hG8 : MG G M8 := MG.fm hG6 hF8
        have hw8 : wS G (mlet (uL S n (sL S n - l)) n (sC (uL S n (sL S n - l)) n)) := wS_let hw6 (by omega)
        show WP _ _ 75 _ [] _ _
        refine xi_vret dX10_lose_75 rfl ?_
        have e : mhurt G S n l = (mlet (uL S n (sL S n - l)) n (sC (uL S n (sL S n - l)) n)) := by unfold mhurt; rw [if_pos ⟨h54, hnP⟩]; rfl
        rw [e] at h
        exact h M8 (hF6.tr hF8) hS8

set_option maxHeartbeats 4000000 in
set_option maxRecDepth 100000 in
theorem nl_go {G : xG} {s : Nat} {Q : Option Value → xM → Prop} (hW : wG G) (hs : s ≤ 56000) {n k : Nat} (hn : n < gT G) (hk : k < gN G) : ∀ (f i : Nat) (S : xS) (M : xM), i + f = gT G → MG G M → RM G S M s → wS G S → (∀ M2, Fm s M M2 → RM G (mgoL G n k i f S) M2 s → Q none M2) → WP shM mX10_goTo 21 [some (.ref 0), some (.int (nI s)), some (.int (nI n)), some (.int (nI k)), some (.int (nI (s + (6 * n)))), some (.int (nI i)), none] [] M Q := by
  obtain ⟨b1, b2, b3, b4, b5, b6, b7, b8, b9, wmap, wlink, wk0, wk1, b10, b11, wword⟩ := id hW
  intro f
  induction f with
  | zero =>
    intro i S M hf hG hS hw h
    refine xi_iload dX10_goTo_21 rfl ?_
    refine xi_aload_n dX10_goTo_23 rfl ?_
    refine xe_getI (v := nI (gT G)) dX10_goTo_24 fgX10_107 mm0 rfl (mg_T hG) ?_
    refine xn_icmp_ge i (gT G) 201 dX10_goTo_27 (by decide) rfl rfl (by omega) (by omega) (fun h27 => ?_) (fun h27 => ?_)
    · skip
      refine xi_vret dX10_goTo_201 rfl ?_
      exact h M Fm.rf hS
    · omega
  | succ f ih =>
    intro i S M hf hG hS hw h
    refine xi_iload dX10_goTo_21 rfl ?_
    refine xi_aload_n dX10_goTo_23 rfl ?_
    refine xe_getI (v := nI (gT G)) dX10_goTo_24 fgX10_107 mm0 rfl (mg_T hG) ?_
    refine xn_icmp_ge i (gT G) 201 dX10_goTo_27 (by decide) rfl rfl (by omega) (by omega) (fun h27 => ?_) (fun h27 => ?_)
    · omega
    · skip
      refine xi_aload_n dX10_goTo_30 rfl ?_
      refine xi_getR dX10_goTo_31 fgX10_39 mm0 rfl ?_
      refine xi_iload dX10_goTo_34 rfl ?_
      refine xi_iconst (v := 1) dX10_goTo_36 rfl ?_
      refine xe_iadd dX10_goTo_37 (v := nI (s + (6 * n) + 1)) (nI_add (s + (6 * n)) 1) ?_
      have q1 := (hw).2.1 n (by omega)
      refine xe_iald (v := nI (sL S n)) (s + (6 * n) + 1) dX10_goTo_38 mm5 (by decide) rfl (by omega) (rmL hS (by omega)) ?_
      refine xn_if_le (sL S n) 201 dX10_goTo_39 (by decide) rfl (by omega) (fun h39 => ?_) (fun h39 => ?_)
      · skip
        refine xi_vret dX10_goTo_201 rfl ?_
        exact h M Fm.rf (by rw [mgoL, if_neg (by omega)]; exact hS)
      · skip
        refine xi_aload_n dX10_goTo_42 rfl ?_
        refine xi_iload_n dX10_goTo_43 rfl ?_
        refine xi_iload dX10_goTo_44 rfl ?_
        refine xi_callV [.int (nI s), .int (nI i)] [] dX10_goTo_46 zX10_lies mlX10_185 mm0 rfl rfl rfl rfl rfl (Nat.le_of_ble_eq_true rfl) (Nat.le_of_ble_eq_true rfl) ⟨by decide, by decide⟩ ?_
        refine n_lies hW hG hs hS (n := i) (by omega) ?_
        show WP _ _ 49 _ [.int (xb (decide (2 < gkind G i) && decide (0 ≤ sC S i)))] _ _
        refine xb_if_eq (decide (2 < gkind G i) && decide (0 ≤ sC S i)) 74 dX10_goTo_49 (by decide) rfl (fun h49 => ?_) (fun h49 => ?_)
        · skip
          refine xi_iconst (v := 0) dX10_goTo_74 rfl ?_
          refine xi_istore (lv' := [some (.ref 0), some (.int (nI s)), some (.int (nI n)), some (.int (nI k)), some (.int (nI (s + (6 * n)))), some (.int (nI i)), some (.int 0)]) dX10_goTo_75 (by decide) rfl ?_
          refine xi_iload dX10_goTo_77 rfl ?_
          refine xn_if_eq 0 157 dX10_goTo_79 (by decide) rfl (by omega) (fun h79 => ?_) (fun h79 => ?_)
          · skip
            refine xi_iload dX10_goTo_157 rfl ?_
            refine xn_if_eq 0 195 dX10_goTo_159 (by decide) rfl (by omega) (fun h159 => ?_) (fun h159 => ?_)
            · skip
              refine xi_iinc (v := nI (i + 1)) (lv' := [some (.ref 0), some (.int (nI s)), some (.int (nI n)), some (.int (nI k)), some (.int (nI (s + (6 * n)))), some (.int (nI (i + 1))), some (.int 0)]) dX10_goTo_195 rfl (xinc i) (by decide) rfl ?_
              refine xi_goto 21 dX10_goTo_198 (by decide) ?_
              have hno : ¬ (sC S i = nI k ∧ 2 < gkind G i) := fun q => by rw [q.1] at h49; simp [q.2, nI_nn (show k < 2 ^ 31 by omega)] at h49
              have e : mgoS G n k i S = S := by unfold mgoS; rw [if_neg (fun q => hno ⟨q.1, by omega⟩), if_neg (fun q => hno ⟨q.1, by omega⟩)]
              have hw99 : wS G S := by rw [← e]; exact wS_goS hw hn (by omega) h39
              refine xi_drop [true, true, true, true, true, true, false] rfl ?_
              exact ih (i + 1) S M (by omega) hG hS hw99 (fun M99 hF99 hS99 => h M99 (Fm.rf.tr hF99) (by rw [mgoL, if_pos h39, e]; exact hS99))
            · omega
          · omega
        · skip
          refine xi_aload_n dX10_goTo_52 rfl ?_
          refine xi_getR dX10_goTo_53 fgX10_39 mm0 rfl ?_
          refine xi_iload_n dX10_goTo_56 rfl ?_
          refine xi_bipush (v := 6) dX10_goTo_57 (by decide) ?_
          refine xi_iload dX10_goTo_59 rfl ?_
          refine xe_imul dX10_goTo_61 (v := nI (6 * i)) (pk_mul 6 i) ?_
          refine xe_iadd dX10_goTo_62 (v := nI (s + (6 * i))) (nI_add s (6 * i)) ?_
          refine xi_iconst (v := 0) dX10_goTo_63 rfl ?_
          refine xe_iadd dX10_goTo_64 (v := nI (s + (6 * i) + 0)) (nI_add (s + (6 * i)) 0) ?_
          refine xe_iald (v := sC S i) (s + (6 * i) + 0) dX10_goTo_65 mm5 (by decide) rfl (by omega) (rmC hS (by omega)) ?_
          refine xi_iload_n dX10_goTo_66 rfl ?_
          refine xat 67 rfl ?_
          refine xi_icmp_ne 74 dX10_goTo_67 (by decide) (fun h67 => ?_) (fun h67 => ?_)
          · skip
            refine xi_iconst (v := 0) dX10_goTo_74 rfl ?_
            refine xi_istore (lv' := [some (.ref 0), some (.int (nI s)), some (.int (nI n)), some (.int (nI k)), some (.int (nI (s + (6 * n)))), some (.int (nI i)), some (.int 0)]) dX10_goTo_75 (by decide) rfl ?_
            refine xi_iload dX10_goTo_77 rfl ?_
            refine xn_if_eq 0 157 dX10_goTo_79 (by decide) rfl (by omega) (fun h79 => ?_) (fun h79 => ?_)
            · skip
              refine xi_iload dX10_goTo_157 rfl ?_
              refine xn_if_eq 0 195 dX10_goTo_159 (by decide) rfl (by omega) (fun h159 => ?_) (fun h159 => ?_)
              · skip
                refine xi_iinc (v := nI (i + 1)) (lv' := [some (.ref 0), some (.int (nI s)), some (.int (nI n)), some (.int (nI k)), some (.int (nI (s + (6 * n)))), some (.int (nI (i + 1))), some (.int 0)]) dX10_goTo_195 rfl (xinc i) (by decide) rfl ?_
                refine xi_goto 21 dX10_goTo_198 (by decide) ?_
                have hno : ¬ (sC S i = nI k ∧ 2 < gkind G i) := fun q => h67 q.1
                have e : mgoS G n k i S = S := by unfold mgoS; rw [if_neg (fun q => hno ⟨q.1, by omega⟩), if_neg (fun q => hno ⟨q.1, by omega⟩)]
                have hw99 : wS G S := by rw [← e]; exact wS_goS hw hn (by omega) h39
                refine xi_drop [true, true, true, true, true, true, false] rfl ?_
                exact ih (i + 1) S M (by omega) hG hS hw99 (fun M99 hF99 hS99 => h M99 (Fm.rf.tr hF99) (by rw [mgoL, if_pos h39, e]; exact hS99))
              · omega
            · omega
          · skip
            refine xi_iconst (v := 1) dX10_goTo_70 rfl ?_
            refine xi_goto 75 dX10_goTo_71 (by decide) ?_
            refine xi_istore (lv' := [some (.ref 0), some (.int (nI s)), some (.int (nI n)), some (.int (nI k)), some (.int (nI (s + (6 * n)))), some (.int (nI i)), some (.int 1)]) dX10_goTo_75 (by decide) rfl ?_
            refine xi_iload dX10_goTo_77 rfl ?_
            refine xn_if_eq 1 157 dX10_goTo_79 (by decide) rfl (by omega) (fun h79 => ?_) (fun h79 => ?_)
            · omega
            · skip
              refine xi_aload_n dX10_goTo_82 rfl ?_
              refine xi_getR dX10_goTo_83 fgX10_29 mm0 rfl ?_
              refine xi_iload dX10_goTo_86 rfl ?_
              have q3 : gkind G i ≤ 7 := hW.kind (by omega)
              refine xe_iald (v := nI (gkind G i)) i dX10_goTo_88 mm4 (by decide) rfl (by omega) (mg_kind hG (by omega)) ?_
              refine xi_iconst (v := 3) dX10_goTo_89 rfl ?_
              refine xn_icmp_ne (gkind G i) 3 157 dX10_goTo_90 (by decide) rfl rfl (by omega) (by omega) (fun h90 => ?_) (fun h90 => ?_)
              · skip
                refine xi_iload dX10_goTo_157 rfl ?_
                refine xn_if_eq 1 195 dX10_goTo_159 (by decide) rfl (by omega) (fun h159 => ?_) (fun h159 => ?_)
                · omega
                · skip
                  refine xi_aload_n dX10_goTo_162 rfl ?_
                  refine xi_getR dX10_goTo_163 fgX10_29 mm0 rfl ?_
                  refine xi_iload dX10_goTo_166 rfl ?_
                  have q4 : gkind G i ≤ 7 := hW.kind (by omega)
                  refine xe_iald (v := nI (gkind G i)) i dX10_goTo_168 mm4 (by decide) rfl (by omega) (mg_kind hG (by omega)) ?_
                  refine xi_iconst (v := 4) dX10_goTo_169 rfl ?_
                  refine xn_icmp_ne (gkind G i) 4 195 dX10_goTo_170 (by decide) rfl rfl (by omega) (by omega) (fun h170 => ?_) (fun h170 => ?_)
                  · skip
                    refine xi_iinc (v := nI (i + 1)) (lv' := [some (.ref 0), some (.int (nI s)), some (.int (nI n)), some (.int (nI k)), some (.int (nI (s + (6 * n)))), some (.int (nI (i + 1))), some (.int 1)]) dX10_goTo_195 rfl (xinc i) (by decide) rfl ?_
                    refine xi_goto 21 dX10_goTo_198 (by decide) ?_
                    have e : mgoS G n k i S = S := by unfold mgoS; rw [if_neg (fun q => by first | omega | exact absurd q.2.1 (by omega) | exact hnb q.2.2), if_neg (fun q => by omega)]
                    have hw99 : wS G S := by rw [← e]; exact wS_goS hw hn (by omega) h39
                    refine xi_drop [true, true, true, true, true, true, false] rfl ?_
                    exact ih (i + 1) S M (by omega) hG hS hw99 (fun M99 hF99 hS99 => h M99 (Fm.rf.tr hF99) (by rw [mgoL, if_pos h39, e]; exact hS99))
                  · skip
                    refine xi_aload_n dX10_goTo_173 rfl ?_
                    refine xi_getR dX10_goTo_174 fgX10_39 mm0 rfl ?_
                    refine xi_iload_n dX10_goTo_177 rfl ?_
                    refine xi_bipush (v := 6) dX10_goTo_178 (by decide) ?_
                    refine xi_iload dX10_goTo_180 rfl ?_
                    refine xe_imul dX10_goTo_182 (v := nI (6 * i)) (pk_mul 6 i) ?_
                    refine xe_iadd dX10_goTo_183 (v := nI (s + (6 * i))) (nI_add s (6 * i)) ?_
                    refine xi_iconst (v := 0) dX10_goTo_184 rfl ?_
                    refine xe_iadd dX10_goTo_185 (v := nI (s + (6 * i) + 0)) (nI_add (s + (6 * i)) 0) ?_
                    refine xi_iconst (v := (-1)) dX10_goTo_186 rfl ?_
                    refine xe_iast (s + (6 * i) + 0) dX10_goTo_187 mm5 (by decide) rfl (by omega) ?_
                    generalize eM5 : (xa M 5 (upd (M.2.1 5) (s + (6 * i) + 0) (-1))) = M5
                    have hS5 : RM G (uC S i (-1)) M5 s := by rw [← eM5]; exact rmuC hW hS (by omega) (-1)
                    have hF5 : Fm s M M5 := by rw [← eM5]; exact Fm.xa (by omega) (by omega)
                    have hG5 : MG G M5 := MG.fm hG hF5
                    have hw5 : wS G (uC S i (-1)) := (wS_uC_it hw (by omega))
                    refine xat 188 rfl ?_
                    refine xi_aload_n dX10_goTo_188 rfl ?_
                    refine xi_iload_n dX10_goTo_189 rfl ?_
                    refine xi_iload_n dX10_goTo_190 rfl ?_
                    refine xi_iconst (v := 2) dX10_goTo_191 rfl ?_
                    refine xi_callV [.int (nI s), .int (nI n), .int 2] [] dX10_goTo_192 zX10_lose mlX10_188 mm0 rfl rfl rfl rfl rfl (Nat.le_of_ble_eq_true rfl) (Nat.le_of_ble_eq_true rfl) ⟨by decide, by decide⟩ ?_
                    refine n_lose hW hG5 hs hS5 hw5 (n := n) (l := 2) (by omega) (by omega) (fun M6 hF6 hS6 => ?_)
                    have hG6 : MG G M6 := MG.fm hG5 hF6
                    have hw6 : wS G (mhurt G (uC S i (-1)) n 2) := wS_hurt hw5 (by omega)
                    show WP _ _ 195 _ [] _ _
                    refine xi_iinc (v := nI (i + 1)) (lv' := [some (.ref 0), some (.int (nI s)), some (.int (nI n)), some (.int (nI k)), some (.int (nI (s + (6 * n)))), some (.int (nI (i + 1))), some (.int 1)]) dX10_goTo_195 rfl (xinc i) (by decide) rfl ?_
                    refine xi_goto 21 dX10_goTo_198 (by decide) ?_
                    have e : mgoS G n k i S = (mhurt G (uC S i (-1)) n 2) := by unfold mgoS; rw [if_neg (fun q => by omega), if_pos ⟨h67, h170⟩]
                    have hw99 : wS G (mhurt G (uC S i (-1)) n 2) := by rw [← e]; exact wS_goS hw hn (by omega) h39
                    refine xi_drop [true, true, true, true, true, true, false] rfl ?_
                    exact ih (i + 1) (mhurt G (uC S i (-1)) n 2) M6 (by omega) hG6 hS6 hw99 (fun M99 hF99 hS99 => h M99 ((hF5.tr hF6).tr hF99) (by rw [mgoL, if_pos h39, e]; exact hS99))
              · skip
                refine xi_aload_n dX10_goTo_93 rfl ?_
                refine xi_getR dX10_goTo_94 fgX10_29 mm0 rfl ?_
                refine xi_iload_n dX10_goTo_97 rfl ?_
                have q7 : gkind G n ≤ 7 := hW.kind (by omega)
                refine xe_iald (v := nI (gkind G n)) n dX10_goTo_98 mm4 (by decide) rfl (by omega) (mg_kind hG (by omega)) ?_
                refine xn_if_ne (gkind G n) 157 dX10_goTo_99 (by decide) rfl (by omega) (fun h99 => ?_) (fun h99 => ?_)
                · have hnb : ¬ n < gP G := fun q => by have := wk0 n q; omega
                  refine xi_iload dX10_goTo_157 rfl ?_
                  refine xn_if_eq 1 195 dX10_goTo_159 (by decide) rfl (by omega) (fun h159 => ?_) (fun h159 => ?_)
                  · omega
                  · skip
                    refine xi_aload_n dX10_goTo_162 rfl ?_
                    refine xi_getR dX10_goTo_163 fgX10_29 mm0 rfl ?_
                    refine xi_iload dX10_goTo_166 rfl ?_
                    have q8 : gkind G i ≤ 7 := hW.kind (by omega)
                    refine xe_iald (v := nI (gkind G i)) i dX10_goTo_168 mm4 (by decide) rfl (by omega) (mg_kind hG (by omega)) ?_
                    refine xi_iconst (v := 4) dX10_goTo_169 rfl ?_
                    refine xn_icmp_ne (gkind G i) 4 195 dX10_goTo_170 (by decide) rfl rfl (by omega) (by omega) (fun h170 => ?_) (fun h170 => ?_)
                    · skip
                      refine xi_iinc (v := nI (i + 1)) (lv' := [some (.ref 0), some (.int (nI s)), some (.int (nI n)), some (.int (nI k)), some (.int (nI (s + (6 * n)))), some (.int (nI (i + 1))), some (.int 1)]) dX10_goTo_195 rfl (xinc i) (by decide) rfl ?_
                      refine xi_goto 21 dX10_goTo_198 (by decide) ?_
                      have e : mgoS G n k i S = S := by unfold mgoS; rw [if_neg (fun q => by first | omega | exact absurd q.2.1 (by omega) | exact hnb q.2.2), if_neg (fun q => by omega)]
                      have hw99 : wS G S := by rw [← e]; exact wS_goS hw hn (by omega) h39
                      refine xi_drop [true, true, true, true, true, true, false] rfl ?_
                      exact ih (i + 1) S M (by omega) hG hS hw99 (fun M99 hF99 hS99 => h M99 (Fm.rf.tr hF99) (by rw [mgoL, if_pos h39, e]; exact hS99))
                    · skip
                      refine xi_aload_n dX10_goTo_173 rfl ?_
                      refine xi_getR dX10_goTo_174 fgX10_39 mm0 rfl ?_
                      refine xi_iload_n dX10_goTo_177 rfl ?_
                      refine xi_bipush (v := 6) dX10_goTo_178 (by decide) ?_
                      refine xi_iload dX10_goTo_180 rfl ?_
                      refine xe_imul dX10_goTo_182 (v := nI (6 * i)) (pk_mul 6 i) ?_
                      refine xe_iadd dX10_goTo_183 (v := nI (s + (6 * i))) (nI_add s (6 * i)) ?_
                      refine xi_iconst (v := 0) dX10_goTo_184 rfl ?_
                      refine xe_iadd dX10_goTo_185 (v := nI (s + (6 * i) + 0)) (nI_add (s + (6 * i)) 0) ?_
                      refine xi_iconst (v := (-1)) dX10_goTo_186 rfl ?_
                      refine xe_iast (s + (6 * i) + 0) dX10_goTo_187 mm5 (by decide) rfl (by omega) ?_
                      generalize eM9 : (xa M 5 (upd (M.2.1 5) (s + (6 * i) + 0) (-1))) = M9
                      have hS9 : RM G (uC S i (-1)) M9 s := by rw [← eM9]; exact rmuC hW hS (by omega) (-1)
                      have hF9 : Fm s M M9 := by rw [← eM9]; exact Fm.xa (by omega) (by omega)
                      have hG9 : MG G M9 := MG.fm hG hF9
                      have hw9 : wS G (uC S i (-1)) := (wS_uC_it hw (by omega))
                      refine xat 188 rfl ?_
                      refine xi_aload_n dX10_goTo_188 rfl ?_
                      refine xi_iload_n dX10_goTo_189 rfl ?_
                      refine xi_iload_n dX10_goTo_190 rfl ?_
                      refine xi_iconst (v := 2) dX10_goTo_191 rfl ?_
                      refine xi_callV [.int (nI s), .int (nI n), .int 2] [] dX10_goTo_192 zX10_lose mlX10_188 mm0 rfl rfl rfl rfl rfl (Nat.le_of_ble_eq_true rfl) (Nat.le_of_ble_eq_true rfl) ⟨by decide, by decide⟩ ?_
                      refine n_lose hW hG9 hs hS9 hw9 (n := n) (l := 2) (by omega) (by omega) (fun M10 hF10 hS10 => ?_)
                      have hG10 : MG G M10 := MG.fm hG9 hF10
                      have hw10 : wS G (mhurt G (uC S i (-1)) n 2) := wS_hurt hw9 (by omega)
                      show WP _ _ 195 _ [] _ _
                      refine xi_iinc (v := nI (i + 1)) (lv' := [some (.ref 0), some (.int (nI s)), some (.int (nI n)), some (.int (nI k)), some (.int (nI (s + (6 * n)))), some (.int (nI (i + 1))), some (.int 1)]) dX10_goTo_195 rfl (xinc i) (by decide) rfl ?_
                      refine xi_goto 21 dX10_goTo_198 (by decide) ?_
                      have e : mgoS G n k i S = (mhurt G (uC S i (-1)) n 2) := by unfold mgoS; rw [if_neg (fun q => by omega), if_pos ⟨h67, h170⟩]
                      have hw99 : wS G (mhurt G (uC S i (-1)) n 2) := by rw [← e]; exact wS_goS hw hn (by omega) h39
                      refine xi_drop [true, true, true, true, true, true, false] rfl ?_
                      exact ih (i + 1) (mhurt G (uC S i (-1)) n 2) M10 (by omega) hG10 hS10 hw99 (fun M99 hF99 hS99 => h M99 ((hF9.tr hF10).tr hF99) (by rw [mgoL, if_pos h39, e]; exact hS99))
                · have hnP : n < gP G := hW.isP hn h99
                  refine xi_aload_n dX10_goTo_102 rfl ?_
                  refine xi_getR dX10_goTo_103 fgX10_39 mm0 rfl ?_
                  refine xi_iload dX10_goTo_106 rfl ?_
                  refine xi_iconst (v := 1) dX10_goTo_108 rfl ?_
                  refine xe_iadd dX10_goTo_109 (v := nI (s + (6 * n) + 1)) (nI_add (s + (6 * n)) 1) ?_
                  refine xi_aload_n dX10_goTo_110 rfl ?_
                  refine xi_getR dX10_goTo_111 fgX10_39 mm0 rfl ?_
                  refine xi_iload dX10_goTo_114 rfl ?_
                  refine xi_iconst (v := 1) dX10_goTo_116 rfl ?_
                  refine xe_iadd dX10_goTo_117 (v := nI (s + (6 * n) + 1)) (nI_add (s + (6 * n)) 1) ?_
                  refine xe_iald (v := nI (sL S n)) (s + (6 * n) + 1) dX10_goTo_118 mm5 (by decide) rfl (by omega) (rmL hS (by omega)) ?_
                  refine xat 119 rfl ?_
                  refine xi_iconst (v := 3) dX10_goTo_119 rfl ?_
                  refine xn_icmp_le (sL S n) 3 127 dX10_goTo_120 (by decide) rfl rfl (by omega) (by omega) (fun h120 => ?_) (fun h120 => ?_)
                  · skip
                    refine xi_aload_n dX10_goTo_127 rfl ?_
                    refine xi_getR dX10_goTo_128 fgX10_39 mm0 rfl ?_
                    refine xi_iload dX10_goTo_131 rfl ?_
                    refine xi_iconst (v := 1) dX10_goTo_133 rfl ?_
                    refine xe_iadd dX10_goTo_134 (v := nI (s + (6 * n) + 1)) (nI_add (s + (6 * n)) 1) ?_
                    refine xe_iald (v := nI (sL S n)) (s + (6 * n) + 1) dX10_goTo_135 mm5 (by decide) rfl (by omega) (rmL hS (by omega)) ?_
                    refine xi_iconst (v := 2) dX10_goTo_136 rfl ?_
                    refine xe_iadd dX10_goTo_137 (v := nI (sL S n + 2)) (nI_add (sL S n) 2) ?_
                    refine xe_iast (s + (6 * n) + 1) dX10_goTo_138 mm5 (by decide) rfl (by omega) ?_
                    generalize eM11 : (xa M 5 (upd (M.2.1 5) (s + (6 * n) + 1) (nI (sL S n + 2)))) = M11
                    have hS11 : RM G (uL S n (sL S n + 2)) M11 s := by rw [← eM11]; exact rmuL hW hS (by omega) (sL S n + 2)
                    have hF11 : Fm s M M11 := by rw [← eM11]; exact Fm.xa (by omega) (by omega)
                    have hG11 : MG G M11 := MG.fm hG hF11
                    have hw11 : wS G (uL S n (sL S n + 2)) := (wS_uL hw (by omega) (fun _ => hw.2.2.1 n hn h39))
                    refine xi_aload_n dX10_goTo_139 rfl ?_
                    refine xi_getR dX10_goTo_140 fgX10_39 mm0 rfl ?_
                    refine xat 143 rfl ?_
                    refine xi_iload_n dX10_goTo_143 rfl ?_
                    refine xi_bipush (v := 6) dX10_goTo_144 (by decide) ?_
                    refine xi_iload dX10_goTo_146 rfl ?_
                    refine xe_imul dX10_goTo_148 (v := nI (6 * i)) (pk_mul 6 i) ?_
                    refine xe_iadd dX10_goTo_149 (v := nI (s + (6 * i))) (nI_add s (6 * i)) ?_
                    refine xi_iconst (v := 0) dX10_goTo_150 rfl ?_
                    refine xe_iadd dX10_goTo_151 (v := nI (s + (6 * i) + 0)) (nI_add (s + (6 * i)) 0) ?_
                    refine xi_iconst (v := (-1)) dX10_goTo_152 rfl ?_
                    refine xe_iast (s + (6 * i) + 0) dX10_goTo_153 mm5 (by decide) rfl (by omega) ?_
                    generalize eM12 : (xa M11 5 (upd (M11.2.1 5) (s + (6 * i) + 0) (-1))) = M12
                    have hS12 : RM G (uC (uL S n (sL S n + 2)) i (-1)) M12 s := by rw [← eM12]; exact rmuC hW hS11 (by omega) (-1)
                    have hF12 : Fm s M11 M12 := by rw [← eM12]; exact Fm.xa (by omega) (by omega)
                    have hG12 : MG G M12 := MG.fm hG11 hF12
                    have hw12 : wS G (uC (uL S n (sL S n + 2)) i (-1)) := (wS_uC_it hw11 (by omega))
                    refine xi_goto 195 dX10_goTo_154 (by decide) ?_
                    refine xi_iinc (v := nI (i + 1)) (lv' := [some (.ref 0), some (.int (nI s)), some (.int (nI n)), some (.int (nI k)), some (.int (nI (s + (6 * n)))), some (.int (nI (i + 1))), some (.int 1)]) dX10_goTo_195 rfl (xinc i) (by decide) rfl ?_
                    refine xi_goto 21 dX10_goTo_198 (by decide) ?_
                    have e : mgoS G n k i S = (uC (uL S n (sL S n + 2)) i (-1)) := by unfold mgoS; rw [if_pos ⟨h67, h90, hnP⟩, show (if sL S n + 2 < 5 then sL S n + 2 else 5) = sL S n + 2 by split <;> omega]; rfl
                    have hw99 : wS G (uC (uL S n (sL S n + 2)) i (-1)) := by rw [← e]; exact wS_goS hw hn (by omega) h39
                    refine xi_drop [true, true, true, true, true, true, false] rfl ?_
                    exact ih (i + 1) (uC (uL S n (sL S n + 2)) i (-1)) M12 (by omega) hG12 hS12 hw99 (fun M99 hF99 hS99 => h M99 ((hF11.tr hF12).tr hF99) (by rw [mgoL, if_pos h39, e]; exact hS99))
                  · skip
                    refine xi_iconst (v := 5) dX10_goTo_123 rfl ?_
                    refine xi_goto 138 dX10_goTo_124 (by decide) ?_
                    refine xe_iast (s + (6 * n) + 1) dX10_goTo_138 mm5 (by decide) rfl (by omega) ?_
                    generalize eM13 : (xa M 5 (upd (M.2.1 5) (s + (6 * n) + 1) 5)) = M13
                    have hS13 : RM G (uL S n 5) M13 s := by rw [← eM13]; exact rmuL hW hS (by omega) 5
                    have hF13 : Fm s M M13 := by rw [← eM13]; exact Fm.xa (by omega) (by omega)
                    have hG13 : MG G M13 := MG.fm hG hF13
                    have hw13 : wS G (uL S n 5) := (wS_uL hw (by omega) (fun _ => hw.2.2.1 n hn h39))
                    refine xi_aload_n dX10_goTo_139 rfl ?_
                    refine xi_getR dX10_goTo_140 fgX10_39 mm0 rfl ?_
                    refine xi_iload_n dX10_goTo_143 rfl ?_
                    refine xi_bipush (v := 6) dX10_goTo_144 (by decide) ?_
                    refine xi_iload dX10_goTo_146 rfl ?_
                    refine xe_imul dX10_goTo_148 (v := nI (6 * i)) (pk_mul 6 i) ?_
                    refine xe_iadd dX10_goTo_149 (v := nI (s + (6 * i))) (nI_add s (6 * i)) ?_
                    refine xi_iconst (v := 0) dX10_goTo_150 rfl ?_
                    refine xe_iadd dX10_goTo_151 (v := nI (s + (6 * i) + 0)) (nI_add (s + (6 * i)) 0) ?_
                    refine xi_iconst (v := (-1)) dX10_goTo_152 rfl ?_
                    refine xat 153 rfl ?_
                    refine xe_iast (s + (6 * i) + 0) dX10_goTo_153 mm5 (by decide) rfl (by omega) ?_
                    generalize eM14 : (xa M13 5 (upd (M13.2.1 5) (s + (6 * i) + 0) (-1))) = M14
                    have hS14 : RM G (uC (uL S n 5) i (-1)) M14 s := by rw [← eM14]; exact rmuC hW hS13 (by omega) (-1)
                    have hF14 : Fm s M13 M14 := by rw [← eM14]; exact Fm.xa (by omega) (by omega)
                    have hG14 : MG G M14 := MG.fm hG13 hF14
                    have hw14 : wS G (uC (uL S n 5) i (-1)) := (wS_uC_it hw13 (by omega))
                    refine xi_goto 195 dX10_goTo_154 (by decide) ?_
                    refine xi_iinc (v := nI (i + 1)) (lv' := [some (.ref 0), some (.int (nI s)), some (.int (nI n)), some (.int (nI k)), some (.int (nI (s + (6 * n)))), some (.int (nI (i + 1))), some (.int 1)]) dX10_goTo_195 rfl (xinc i) (by decide) rfl ?_
                    refine xi_goto 21 dX10_goTo_198 (by decide) ?_
                    have e : mgoS G n k i S = (uC (uL S n 5) i (-1)) := by unfold mgoS; rw [if_pos ⟨h67, h90, hnP⟩, show (if sL S n + 2 < 5 then sL S n + 2 else 5) = 5 by split <;> omega]; rfl
                    have hw99 : wS G (uC (uL S n 5) i (-1)) := by rw [← e]; exact wS_goS hw hn (by omega) h39
                    refine xi_drop [true, true, true, true, true, true, false] rfl ?_
                    exact ih (i + 1) (uC (uL S n 5) i (-1)) M14 (by omega) hG14 hS14 hw99 (fun M99 hF99 hS99 => h M99 ((hF13.tr hF14).tr hF99) (by rw [mgoL, if_pos h39, e]; exact hS99))

set_option maxHeartbeats 4000000 in
set_option maxRecDepth 100000 in
theorem n_go {G : xG} {S : xS} {M : xM} {s : Nat} {Q : Option Value → xM → Prop} (hW : wG G) (hG : MG G M) (hs : s ≤ 56000) (hS : RM G S M s) (hw : wS G S) {n k : Nat} (hn : n < gT G) (hk : k < gN G) (h : ∀ M2, Fm s M M2 → RM G (mgo G S n k) M2 s → Q none M2) : WP shM mX10_goTo 0 [some (.ref 0), some (.int (nI s)), some (.int (nI n)), some (.int (nI k)), none, none, none] [] M Q := by
  obtain ⟨b1, b2, b3, b4, b5, b6, b7, b8, b9, wmap, wlink, wk0, wk1, b10, b11, wword⟩ := id hW
  refine xi_iload_n dX10_goTo_0 rfl ?_
  refine xi_bipush (v := 6) dX10_goTo_1 (by decide) ?_
  refine xi_iload_n dX10_goTo_3 rfl ?_
  refine xe_imul dX10_goTo_4 (v := nI (6 * n)) (pk_mul 6 n) ?_
  refine xe_iadd dX10_goTo_5 (v := nI (s + (6 * n))) (nI_add s (6 * n)) ?_
  refine xi_istore (lv' := [some (.ref 0), some (.int (nI s)), some (.int (nI n)), some (.int (nI k)), some (.int (nI (s + (6 * n)))), none, none]) dX10_goTo_6 (by decide) rfl ?_
  refine xi_aload_n dX10_goTo_8 rfl ?_
  refine xi_getR dX10_goTo_9 fgX10_39 mm0 rfl ?_
  refine xi_iload dX10_goTo_12 rfl ?_
  refine xi_iconst (v := 0) dX10_goTo_14 rfl ?_
  refine xe_iadd dX10_goTo_15 (v := nI (s + (6 * n) + 0)) (nI_add (s + (6 * n)) 0) ?_
  refine xat 16 rfl ?_
  refine xi_iload_n dX10_goTo_16 rfl ?_
  refine xe_iast (s + (6 * n) + 0) dX10_goTo_17 mm5 (by decide) rfl (by omega) ?_
  generalize eM1 : (xa M 5 (upd (M.2.1 5) (s + (6 * n) + 0) (nI k))) = M1
  have hS1 : RM G (uC S n (nI k)) M1 s := by rw [← eM1]; exact rmuC hW hS (by omega) (nI k)
  have hF1 : Fm s M M1 := by rw [← eM1]; exact Fm.xa (by omega) (by omega)
  have hG1 : MG G M1 := MG.fm hG hF1
  have hw1 : wS G (uC S n (nI k)) := (wS_uC_pos hw hk)
  refine xi_iconst (v := 0) dX10_goTo_18 rfl ?_
  refine xi_istore (lv' := [some (.ref 0), some (.int (nI s)), some (.int (nI n)), some (.int (nI k)), some (.int (nI (s + (6 * n)))), some (.int 0), none]) dX10_goTo_19 (by decide) rfl ?_
  exact nl_go hW hs hn hk (gT G) 0 _ _ (by omega) hG1 hS1 hw1 (fun M99 hF99 hS99 => h M99 (hF1.tr hF99) hS99)

