theorem xtop {sh : List xSh} {Y : xY} {pc : Nat} {lv : List (Option Value)} {st : List Value} {M : xM} {Q : Option Value → xM → Prop} {x y : Int32} (h : x = y) (k : WP sh Y pc lv (.int y :: st) M Q) : WP sh Y pc lv (.int x :: st) M Q := h ▸ k
theorem xlv {sh : List xSh} {Y : xY} {pc : Nat} {lv lv' : List (Option Value)} {st : List Value} {M : xM} {Q : Option Value → xM → Prop} (h : lv = lv') (k : WP sh Y pc lv' st M Q) : WP sh Y pc lv st M Q := h ▸ k
set_option maxHeartbeats 4000000 in
set_option maxRecDepth 100000 in
theorem s_let {G : xG} {S : xS} {M : xM} {r : Nat} {Q : Option Value → xM → Prop} (hW : wG G) (hG : CG G M) (hr : isSt r) (hS : CS G S M r) (hw : wS G S) {p : Nat} {c : Int32} (hp : p < gP G) (h : ∀ M2, Fr r M M2 → CS G (mlet S p c) M2 r → Q none M2) : WP shC mX6_letGo 0 [some (.ref r), some (.int (nI p)), some (.int c), none] [] M Q := by
  obtain ⟨b1, b2, b3, b4, b5, b6, b7, b8, b9, wmap, wlink, wk0, wk1, b10, b11, wword⟩ := id hW
  refine xi_aload_n dX6_letGo_0 rfl ?_
  refine xi_getR dX6_letGo_1 fgX6_27 (so hr) rfl ?_
  refine xi_iload_n dX6_letGo_4 rfl ?_
  obtain ⟨o1, ho1⟩ : ∃ o, o = sH S p := ⟨_, rfl⟩
  refine xe_iald (v := xo o1) p dX6_letGo_5 (sa6 hr) (by decide) rfl (by omega) (by rw [ho1]; exact csH hS (by omega)) ?_
  refine xi_istore_n (lv' := [some (.ref r), some (.int (nI p)), some (.int c), some (.int (xo o1))]) dX6_letGo_6 (by decide) rfl ?_
  refine xi_iload_n dX6_letGo_7 rfl ?_
  refine xo_if_lt o1 32 dX6_letGo_8 (by decide) rfl (fun j q => by have := hw.2.2.2.2 p hp j (ho1.symm.trans q); omega) (fun h8 => ?_) (fun j h8 => ?_)
  · subst h8
    refine xi_vret dX6_letGo_32 rfl ?_
    have e : mlet S p c = S := by simp [mlet, ← ho1]
    rw [e] at h
    exact h M Fr.rf hS
  · subst h8
    have hj := hw.2.2.2.2 p hp j ho1.symm
    refine xi_aload_n dX6_letGo_11 rfl ?_
    refine xi_getR dX6_letGo_12 fgX6_27 (so hr) rfl ?_
    refine xi_iload_n dX6_letGo_15 rfl ?_
    refine xi_iconst (v := (-1)) dX6_letGo_16 rfl ?_
    refine xe_iast p dX6_letGo_17 (sa6 hr) (by decide) rfl (by omega) ?_
    generalize eM2 : (xa M (r + 6) (upd (M.2.1 (r + 6)) p (-1))) = M2
    have hS2 : CS G (uH S p none) M2 r := by rw [← eM2]; exact csuH hS p none
    have hF2 : Fr r M M2 := by rw [← eM2]; exact Fr.xa (by decide) (by decide)
    have hG2 : CG G M2 := CG.fr hG hr hF2
    refine xi_aload_n dX6_letGo_18 rfl ?_
    refine xi_getR dX6_letGo_19 fgX6_18 (so hr) rfl ?_
    refine xi_iload_n dX6_letGo_22 rfl ?_
    refine xi_iconst (v := (-1)) dX6_letGo_23 rfl ?_
    refine xe_iast j dX6_letGo_24 (sa3 hr) (by decide) rfl (by omega) ?_
    generalize eM3 : (xa M2 (r + 3) (upd (M2.2.1 (r + 3)) j (-1))) = M3
    have hS3 : CS G (uB (uH S p none) j none) M3 r := by rw [← eM3]; exact csuB hS2 j none
    have hF3 : Fr r M2 M3 := by rw [← eM3]; exact Fr.xa (by decide) (by decide)
    have hG3 : CG G M3 := CG.fr hG2 hr hF3
    refine xi_aload_n dX6_letGo_25 rfl ?_
    refine xat 26 rfl ?_
    refine xi_getR dX6_letGo_26 fgX6_9 (so hr) rfl ?_
    refine xi_iload_n dX6_letGo_29 rfl ?_
    refine xi_iload_n dX6_letGo_30 rfl ?_
    refine xe_iast j dX6_letGo_31 (sa1 hr) (by decide) rfl (by omega) ?_
    generalize eM4 : (xa M3 (r + 1) (upd (M3.2.1 (r + 1)) j c)) = M4
    have hS4 : CS G (uC (uB (uH S p none) j none) j c) M4 r := by rw [← eM4]; exact csuC hS3 j c
    have hF4 : Fr r M3 M4 := by rw [← eM4]; exact Fr.xa (by decide) (by decide)
    have hG4 : CG G M4 := CG.fr hG3 hr hF4
    refine xi_vret dX6_letGo_32 rfl ?_
    have e : mlet S p c = (uC (uB (uH S p none) j none) j c) := by simp [mlet, ← ho1]
    rw [e] at h
    exact h M4 ((hF2.tr hF3).tr hF4) hS4

set_option maxHeartbeats 4000000 in
set_option maxRecDepth 100000 in
theorem s_hurt {G : xG} {S : xS} {M : xM} {r : Nat} {Q : Option Value → xM → Prop} (hW : wG G) (hG : CG G M) (hr : isSt r) (hS : CS G S M r) (hw : wS G S) {n l : Nat} (hn : n < gT G) (hl : l ≤ 5) (h : ∀ M2, Fr r M M2 → CS G (mhurt G S n l) M2 r → Q none M2) : WP shC mX6_hurt 0 [some (.ref r), some (.int (nI n)), some (.int (nI l))] [] M Q := by
  obtain ⟨b1, b2, b3, b4, b5, b6, b7, b8, b9, wmap, wlink, wk0, wk1, b10, b11, wword⟩ := id hW
  refine xi_aload_n dX6_hurt_0 rfl ?_
  refine xi_getR dX6_hurt_1 fgX6_15 (so hr) rfl ?_
  refine xi_iload_n dX6_hurt_4 rfl ?_
  refine xi_aload_n dX6_hurt_5 rfl ?_
  refine xi_getR dX6_hurt_6 fgX6_15 (so hr) rfl ?_
  refine xi_iload_n dX6_hurt_9 rfl ?_
  have q1 := (hw).2.1 n (by omega)
  refine xe_iald (v := nI (sL S n)) n dX6_hurt_10 (sa2 hr) (by decide) rfl (by omega) (csL hS (by omega)) ?_
  refine xi_iload_n dX6_hurt_11 rfl ?_
  refine xn_icmp_le (sL S n) l 26 dX6_hurt_12 (by decide) rfl rfl (by omega) (by omega) (fun h12 => ?_) (fun h12 => ?_)
  · skip
    refine xi_iconst (v := 0) dX6_hurt_26 rfl ?_
    refine xtop (y := nI (sL S n - l)) (by rw [show sL S n - l = 0 by omega]; rfl) ?_
    refine xe_iast n dX6_hurt_27 (sa2 hr) (by decide) rfl (by omega) ?_
    generalize eM2 : (xa M (r + 2) (upd (M.2.1 (r + 2)) n (nI (sL S n - l)))) = M2
    have hS2 : CS G (uL S n (sL S n - l)) M2 r := by rw [← eM2]; exact csuL hS n (sL S n - l)
    have hF2 : Fr r M M2 := by rw [← eM2]; exact Fr.xa (by decide) (by decide)
    have hG2 : CG G M2 := CG.fr hG hr hF2
    have hw2 : wS G (uL S n (sL S n - l)) := (wS_uL hw (by omega) (fun q => hw.2.2.1 n hn (by omega)))
    refine xi_aload_n dX6_hurt_28 rfl ?_
    refine xi_getR dX6_hurt_29 fgX6_15 (so hr) rfl ?_
    refine xi_iload_n dX6_hurt_32 rfl ?_
    refine xe_iald (v := nI (sL S n - l)) n dX6_hurt_33 (sa2 hr) (by decide) rfl (by omega) (by rw [csL hS2 (by omega), sL_uL, up_s]) ?_
    refine xn_if_ne (sL S n - l) 59 dX6_hurt_34 (by decide) rfl (by omega) (fun h34 => ?_) (fun h34 => ?_)
    · skip
      refine xi_vret dX6_hurt_59 rfl ?_
      have e : mhurt G S n l = (uL S n (sL S n - l)) := by unfold mhurt; rw [if_neg (by omega)]
      rw [e] at h
      exact h M2 hF2 hS2
    · skip
      refine xi_iload_n dX6_hurt_37 rfl ?_
      refine xi_aload_n dX6_hurt_38 rfl ?_
      refine xi_getR dX6_hurt_39 fgX6_39 (so hr) rfl ?_
      refine xe_getI (v := nI (gP G)) dX6_hurt_42 fgX6_49 cc1 rfl (cg_P hG2) ?_
      refine xn_icmp_ge n (gP G) 59 dX6_hurt_45 (by decide) rfl rfl (by omega) (by omega) (fun h45 => ?_) (fun h45 => ?_)
      · skip
        refine xi_vret dX6_hurt_59 rfl ?_
        have e : mhurt G S n l = (uL S n (sL S n - l)) := by unfold mhurt; rw [if_neg (by omega)]
        rw [e] at h
        exact h M2 hF2 hS2
      · skip
        refine xi_aload_n dX6_hurt_48 rfl ?_
        refine xi_iload_n dX6_hurt_49 rfl ?_
        refine xi_aload_n dX6_hurt_50 rfl ?_
        refine xi_getR dX6_hurt_51 fgX6_9 (so hr) rfl ?_
        refine xi_iload_n dX6_hurt_54 rfl ?_
        refine xe_iald (v := sC S n) n dX6_hurt_55 (sa1 hr) (by decide) rfl (by omega) (csC hS2 (by omega)) ?_
        refine xi_callV [.int (nI n), .int (sC S n)] [] dX6_hurt_56 zX6_letGo mlX6_194 (so hr) rfl rfl rfl rfl rfl (Nat.le_of_ble_eq_true rfl) (Nat.le_of_ble_eq_true rfl) ⟨by decide, by decide⟩ ?_
        refine s_let hW hG2 hr hS2 hw2 (p := n) (c := sC S n) (by omega) (fun M3 hF3 hS3 => ?_)
        have hG3 : CG G M3 := CG.fr hG2 hr hF3
        have hw3 : wS G (mlet (uL S n (sL S n - l)) n (sC S n)) := wS_let hw2 (by omega)
        show WP _ _ 59 _ [] _ _
        refine xi_vret dX6_hurt_59 rfl ?_
        have e : mhurt G S n l = (mlet (uL S n (sL S n - l)) n (sC S n)) := by unfold mhurt; rw [if_pos (by omega)]
        rw [e] at h
        exact h M3 (hF2.tr hF3) hS3
  · skip
    refine xi_aload_n dX6_hurt_15 rfl ?_
    refine xi_getR dX6_hurt_16 fgX6_15 (so hr) rfl ?_
    refine xi_iload_n dX6_hurt_19 rfl ?_
    have q4 := (hw).2.1 n (by omega)
    refine xe_iald (v := nI (sL S n)) n dX6_hurt_20 (sa2 hr) (by decide) rfl (by omega) (csL hS (by omega)) ?_
    refine xi_iload_n dX6_hurt_21 rfl ?_
    refine xe_isub dX6_hurt_22 (v := nI (sL S n - l)) (pk_sub (by omega)) ?_
    refine xi_goto 27 dX6_hurt_23 (by decide) ?_
    refine xe_iast n dX6_hurt_27 (sa2 hr) (by decide) rfl (by omega) ?_
    generalize eM5 : (xa M (r + 2) (upd (M.2.1 (r + 2)) n (nI (sL S n - l)))) = M5
    have hS5 : CS G (uL S n (sL S n - l)) M5 r := by rw [← eM5]; exact csuL hS n (sL S n - l)
    have hF5 : Fr r M M5 := by rw [← eM5]; exact Fr.xa (by decide) (by decide)
    have hG5 : CG G M5 := CG.fr hG hr hF5
    have hw5 : wS G (uL S n (sL S n - l)) := (wS_uL hw (by omega) (fun q => hw.2.2.1 n hn (by omega)))
    refine xi_aload_n dX6_hurt_28 rfl ?_
    refine xi_getR dX6_hurt_29 fgX6_15 (so hr) rfl ?_
    refine xi_iload_n dX6_hurt_32 rfl ?_
    refine xe_iald (v := nI (sL S n - l)) n dX6_hurt_33 (sa2 hr) (by decide) rfl (by omega) (by rw [csL hS5 (by omega), sL_uL, up_s]) ?_
    refine xn_if_ne (sL S n - l) 59 dX6_hurt_34 (by decide) rfl (by omega) (fun h34 => ?_) (fun h34 => ?_)
    · skip
      refine xi_vret dX6_hurt_59 rfl ?_
      have e : mhurt G S n l = (uL S n (sL S n - l)) := by unfold mhurt; rw [if_neg (by omega)]
      rw [e] at h
      exact h M5 hF5 hS5
    · skip
      refine xi_iload_n dX6_hurt_37 rfl ?_
      refine xi_aload_n dX6_hurt_38 rfl ?_
      refine xi_getR dX6_hurt_39 fgX6_39 (so hr) rfl ?_
      refine xe_getI (v := nI (gP G)) dX6_hurt_42 fgX6_49 cc1 rfl (cg_P hG5) ?_
      refine xn_icmp_ge n (gP G) 59 dX6_hurt_45 (by decide) rfl rfl (by omega) (by omega) (fun h45 => ?_) (fun h45 => ?_)
      · skip
        refine xi_vret dX6_hurt_59 rfl ?_
        have e : mhurt G S n l = (uL S n (sL S n - l)) := by unfold mhurt; rw [if_neg (by omega)]
        rw [e] at h
        exact h M5 hF5 hS5
      · skip
        refine xi_aload_n dX6_hurt_48 rfl ?_
        refine xi_iload_n dX6_hurt_49 rfl ?_
        refine xi_aload_n dX6_hurt_50 rfl ?_
        refine xi_getR dX6_hurt_51 fgX6_9 (so hr) rfl ?_
        refine xi_iload_n dX6_hurt_54 rfl ?_
        refine xe_iald (v := sC S n) n dX6_hurt_55 (sa1 hr) (by decide) rfl (by omega) (csC hS5 (by omega)) ?_
        refine xi_callV [.int (nI n), .int (sC S n)] [] dX6_hurt_56 zX6_letGo mlX6_194 (so hr) rfl rfl rfl rfl rfl (Nat.le_of_ble_eq_true rfl) (Nat.le_of_ble_eq_true rfl) ⟨by decide, by decide⟩ ?_
        refine s_let hW hG5 hr hS5 hw5 (p := n) (c := sC S n) (by omega) (fun M6 hF6 hS6 => ?_)
        have hG6 : CG G M6 := CG.fr hG5 hr hF6
        have hw6 : wS G (mlet (uL S n (sL S n - l)) n (sC S n)) := wS_let hw5 (by omega)
        show WP _ _ 59 _ [] _ _
        refine xi_vret dX6_hurt_59 rfl ?_
        have e : mhurt G S n l = (mlet (uL S n (sL S n - l)) n (sC S n)) := by unfold mhurt; rw [if_pos (by omega)]
        rw [e] at h
        exact h M6 (hF5.tr hF6) hS6

set_option maxHeartbeats 4000000 in
set_option maxRecDepth 100000 in
theorem l_enter {G : xG} {r : Nat} {Q : Option Value → xM → Prop} (hW : wG G) (hr : isSt r) {n k : Nat} (hn : n < gT G) (hk : k < gN G) : ∀ (f i : Nat) (S : xS) (M : xM), i + f = gT G → CG G M → CS G S M r → wS G S → (∀ M2, Fr r M M2 → CS G (mgoL G n k i f S) M2 r → Q none M2) → WP shC mX6_enterIfFree 36 [some (.ref r), some (.int (nI n)), some (.int (nI k)), some (.int (xb (decide (n < gP G)))), some (.int (nI i))] [] M Q := by
  obtain ⟨b1, b2, b3, b4, b5, b6, b7, b8, b9, wmap, wlink, wk0, wk1, b10, b11, wword⟩ := id hW
  intro f
  induction f with
  | zero =>
    intro i S M hf hG hS hw h
    refine xi_iload dX6_enterIfFree_36 rfl ?_
    refine xi_aload_n dX6_enterIfFree_38 rfl ?_
    refine xi_getR dX6_enterIfFree_39 fgX6_39 (so hr) rfl ?_
    refine xe_getI (v := nI (gT G)) dX6_enterIfFree_42 fgX6_75 cc1 rfl (cg_T hG) ?_
    refine xn_icmp_ge i (gT G) 172 dX6_enterIfFree_45 (by decide) rfl rfl (by omega) (by omega) (fun h45 => ?_) (fun h45 => ?_)
    · skip
      refine xi_vret dX6_enterIfFree_172 rfl ?_
      exact h M Fr.rf hS
    · omega
  | succ f ih =>
    intro i S M hf hG hS hw h
    refine xi_iload dX6_enterIfFree_36 rfl ?_
    refine xi_aload_n dX6_enterIfFree_38 rfl ?_
    refine xi_getR dX6_enterIfFree_39 fgX6_39 (so hr) rfl ?_
    refine xe_getI (v := nI (gT G)) dX6_enterIfFree_42 fgX6_75 cc1 rfl (cg_T hG) ?_
    refine xn_icmp_ge i (gT G) 172 dX6_enterIfFree_45 (by decide) rfl rfl (by omega) (by omega) (fun h45 => ?_) (fun h45 => ?_)
    · omega
    · skip
      refine xi_aload_n dX6_enterIfFree_48 rfl ?_
      refine xi_getR dX6_enterIfFree_49 fgX6_15 (so hr) rfl ?_
      refine xi_iload_n dX6_enterIfFree_52 rfl ?_
      have q1 := (hw).2.1 n (by omega)
      refine xe_iald (v := nI (sL S n)) n dX6_enterIfFree_53 (sa2 hr) (by decide) rfl (by omega) (csL hS (by omega)) ?_
      refine xn_if_le (sL S n) 172 dX6_enterIfFree_54 (by decide) rfl (by omega) (fun h54 => ?_) (fun h54 => ?_)
      · skip
        refine xi_vret dX6_enterIfFree_172 rfl ?_
        exact h M Fr.rf (by rw [mgoL, if_neg (by omega)]; exact hS)
      · skip
        refine xi_aload_n dX6_enterIfFree_57 rfl ?_
        refine xi_getR dX6_enterIfFree_58 fgX6_9 (so hr) rfl ?_
        refine xi_iload dX6_enterIfFree_61 rfl ?_
        refine xe_iald (v := sC S i) i dX6_enterIfFree_63 (sa1 hr) (by decide) rfl (by omega) (csC hS (by omega)) ?_
        refine xi_iload_n dX6_enterIfFree_64 rfl ?_
        refine xi_icmp_ne 127 dX6_enterIfFree_65 (by decide) (fun h65 => ?_) (fun h65 => ?_)
        · skip
          refine xi_aload_n dX6_enterIfFree_127 rfl ?_
          refine xi_getR dX6_enterIfFree_128 fgX6_9 (so hr) rfl ?_
          refine xi_iload dX6_enterIfFree_131 rfl ?_
          refine xe_iald (v := sC S i) i dX6_enterIfFree_133 (sa1 hr) (by decide) rfl (by omega) (csC hS (by omega)) ?_
          refine xi_iload_n dX6_enterIfFree_134 rfl ?_
          refine xi_icmp_ne 166 dX6_enterIfFree_135 (by decide) (fun h135 => ?_) (fun h135 => ?_)
          · skip
            refine xi_iinc (v := nI (i + 1)) (lv' := [some (.ref r), some (.int (nI n)), some (.int (nI k)), some (.int (xb (decide (n < gP G)))), some (.int (nI (i + 1)))]) dX6_enterIfFree_166 rfl (xinc i) (by decide) rfl ?_
            refine xi_goto 36 dX6_enterIfFree_169 (by decide) ?_
            have e : mgoS G n k i S = S := by first | (simp [mgoS, h65, h135]; done) | (exfalso; first | exact h65 h135 | exact h135 h65 | omega)
            have hw9 : wS G S := by rw [← e]; exact wS_goS hw hn (by omega) h54
            exact ih (i + 1) S M (by omega) hG hS hw9 (fun M9 hF9 hS9 => h M9 (Fr.rf.tr hF9) (by rw [mgoL, if_pos h54, e]; exact hS9))
          · skip
            refine xi_aload_n dX6_enterIfFree_138 rfl ?_
            refine xi_getR dX6_enterIfFree_139 fgX6_39 (so hr) rfl ?_
            refine xi_getR dX6_enterIfFree_142 fgX6_72 cc1 rfl ?_
            refine xi_iload dX6_enterIfFree_145 rfl ?_
            have q4 : gkind G i ≤ 7 := hW.kind (by omega)
            refine xe_iald (v := nI (gkind G i)) i dX6_enterIfFree_147 cc8 (by decide) rfl (by omega) (cg_kind hG (by omega)) ?_
            refine xi_iconst (v := 4) dX6_enterIfFree_148 rfl ?_
            refine xn_icmp_ne (gkind G i) 4 166 dX6_enterIfFree_149 (by decide) rfl rfl (by omega) (by omega) (fun h149 => ?_) (fun h149 => ?_)
            · skip
              refine xi_iinc (v := nI (i + 1)) (lv' := [some (.ref r), some (.int (nI n)), some (.int (nI k)), some (.int (xb (decide (n < gP G)))), some (.int (nI (i + 1)))]) dX6_enterIfFree_166 rfl (xinc i) (by decide) rfl ?_
              refine xi_goto 36 dX6_enterIfFree_169 (by decide) ?_
              have e : mgoS G n k i S = S := by first | (simp [mgoS, h65, h135, h149]; done) | (exfalso; first | exact h65 h135 | exact h135 h65 | omega)
              have hw9 : wS G S := by rw [← e]; exact wS_goS hw hn (by omega) h54
              exact ih (i + 1) S M (by omega) hG hS hw9 (fun M9 hF9 hS9 => h M9 (Fr.rf.tr hF9) (by rw [mgoL, if_pos h54, e]; exact hS9))
            · skip
              refine xi_aload_n dX6_enterIfFree_152 rfl ?_
              refine xi_getR dX6_enterIfFree_153 fgX6_9 (so hr) rfl ?_
              refine xi_iload dX6_enterIfFree_156 rfl ?_
              refine xi_iconst (v := (-1)) dX6_enterIfFree_158 rfl ?_
              refine xe_iast i dX6_enterIfFree_159 (sa1 hr) (by decide) rfl (by omega) ?_
              generalize eM5 : (xa M (r + 1) (upd (M.2.1 (r + 1)) i (-1))) = M5
              have hS5 : CS G (uC S i (-1)) M5 r := by rw [← eM5]; exact csuC hS i (-1)
              have hF5 : Fr r M M5 := by rw [← eM5]; exact Fr.xa (by decide) (by decide)
              have hG5 : CG G M5 := CG.fr hG hr hF5
              have hw5 : wS G (uC S i (-1)) := (wS_uC_it hw (by omega))
              refine xi_aload_n dX6_enterIfFree_160 rfl ?_
              refine xi_iload_n dX6_enterIfFree_161 rfl ?_
              refine xi_iconst (v := 2) dX6_enterIfFree_162 rfl ?_
              refine xi_callV [.int (nI n), .int 2] [] dX6_enterIfFree_163 zX6_hurt mlX6_203 (so hr) rfl rfl rfl rfl rfl (Nat.le_of_ble_eq_true rfl) (Nat.le_of_ble_eq_true rfl) ⟨by decide, by decide⟩ ?_
              refine s_hurt hW hG5 hr hS5 hw5 (n := n) (l := 2) (by omega) (by omega) (fun M6 hF6 hS6 => ?_)
              have hG6 : CG G M6 := CG.fr hG5 hr hF6
              have hw6 : wS G (mhurt G (uC S i (-1)) n 2) := wS_hurt hw5 (by omega)
              show WP _ _ 166 _ [] _ _
              refine xi_iinc (v := nI (i + 1)) (lv' := [some (.ref r), some (.int (nI n)), some (.int (nI k)), some (.int (xb (decide (n < gP G)))), some (.int (nI (i + 1)))]) dX6_enterIfFree_166 rfl (xinc i) (by decide) rfl ?_
              refine xi_goto 36 dX6_enterIfFree_169 (by decide) ?_
              have e : mgoS G n k i S = (mhurt G (uC S i (-1)) n 2) := by first | (simp [mgoS, h65, h135, h149]; done) | (exfalso; first | exact h65 h135 | exact h135 h65 | omega)
              have hw9 : wS G (mhurt G (uC S i (-1)) n 2) := by rw [← e]; exact wS_goS hw hn (by omega) h54
              exact ih (i + 1) (mhurt G (uC S i (-1)) n 2) M6 (by omega) hG6 hS6 hw9 (fun M9 hF9 hS9 => h M9 ((hF5.tr hF6).tr hF9) (by rw [mgoL, if_pos h54, e]; exact hS9))
        · skip
          refine xi_aload_n dX6_enterIfFree_68 rfl ?_
          refine xi_getR dX6_enterIfFree_69 fgX6_39 (so hr) rfl ?_
          refine xi_getR dX6_enterIfFree_72 fgX6_72 cc1 rfl ?_
          refine xi_iload dX6_enterIfFree_75 rfl ?_
          have q7 : gkind G i ≤ 7 := hW.kind (by omega)
          refine xe_iald (v := nI (gkind G i)) i dX6_enterIfFree_77 cc8 (by decide) rfl (by omega) (cg_kind hG (by omega)) ?_
          refine xi_iconst (v := 3) dX6_enterIfFree_78 rfl ?_
          refine xn_icmp_ne (gkind G i) 3 127 dX6_enterIfFree_79 (by decide) rfl rfl (by omega) (by omega) (fun h79 => ?_) (fun h79 => ?_)
          · skip
            refine xi_aload_n dX6_enterIfFree_127 rfl ?_
            refine xi_getR dX6_enterIfFree_128 fgX6_9 (so hr) rfl ?_
            refine xi_iload dX6_enterIfFree_131 rfl ?_
            refine xe_iald (v := sC S i) i dX6_enterIfFree_133 (sa1 hr) (by decide) rfl (by omega) (csC hS (by omega)) ?_
            refine xi_iload_n dX6_enterIfFree_134 rfl ?_
            refine xi_icmp_ne 166 dX6_enterIfFree_135 (by decide) (fun h135 => ?_) (fun h135 => ?_)
            · skip
              refine xi_iinc (v := nI (i + 1)) (lv' := [some (.ref r), some (.int (nI n)), some (.int (nI k)), some (.int (xb (decide (n < gP G)))), some (.int (nI (i + 1)))]) dX6_enterIfFree_166 rfl (xinc i) (by decide) rfl ?_
              refine xi_goto 36 dX6_enterIfFree_169 (by decide) ?_
              have e : mgoS G n k i S = S := by first | (simp [mgoS, h65, h79, h135]; done) | (exfalso; first | exact h65 h135 | exact h135 h65 | omega)
              have hw9 : wS G S := by rw [← e]; exact wS_goS hw hn (by omega) h54
              exact ih (i + 1) S M (by omega) hG hS hw9 (fun M9 hF9 hS9 => h M9 (Fr.rf.tr hF9) (by rw [mgoL, if_pos h54, e]; exact hS9))
            · skip
              refine xi_aload_n dX6_enterIfFree_138 rfl ?_
              refine xi_getR dX6_enterIfFree_139 fgX6_39 (so hr) rfl ?_
              refine xi_getR dX6_enterIfFree_142 fgX6_72 cc1 rfl ?_
              refine xi_iload dX6_enterIfFree_145 rfl ?_
              have q9 : gkind G i ≤ 7 := hW.kind (by omega)
              refine xe_iald (v := nI (gkind G i)) i dX6_enterIfFree_147 cc8 (by decide) rfl (by omega) (cg_kind hG (by omega)) ?_
              refine xi_iconst (v := 4) dX6_enterIfFree_148 rfl ?_
              refine xn_icmp_ne (gkind G i) 4 166 dX6_enterIfFree_149 (by decide) rfl rfl (by omega) (by omega) (fun h149 => ?_) (fun h149 => ?_)
              · skip
                refine xi_iinc (v := nI (i + 1)) (lv' := [some (.ref r), some (.int (nI n)), some (.int (nI k)), some (.int (xb (decide (n < gP G)))), some (.int (nI (i + 1)))]) dX6_enterIfFree_166 rfl (xinc i) (by decide) rfl ?_
                refine xi_goto 36 dX6_enterIfFree_169 (by decide) ?_
                have e : mgoS G n k i S = S := by first | (simp [mgoS, h65, h79, h135, h149]; done) | (exfalso; first | exact h65 h135 | exact h135 h65 | omega)
                have hw9 : wS G S := by rw [← e]; exact wS_goS hw hn (by omega) h54
                exact ih (i + 1) S M (by omega) hG hS hw9 (fun M9 hF9 hS9 => h M9 (Fr.rf.tr hF9) (by rw [mgoL, if_pos h54, e]; exact hS9))
              · skip
                refine xi_aload_n dX6_enterIfFree_152 rfl ?_
                refine xi_getR dX6_enterIfFree_153 fgX6_9 (so hr) rfl ?_
                refine xi_iload dX6_enterIfFree_156 rfl ?_
                refine xi_iconst (v := (-1)) dX6_enterIfFree_158 rfl ?_
                refine xe_iast i dX6_enterIfFree_159 (sa1 hr) (by decide) rfl (by omega) ?_
                generalize eM10 : (xa M (r + 1) (upd (M.2.1 (r + 1)) i (-1))) = M10
                have hS10 : CS G (uC S i (-1)) M10 r := by rw [← eM10]; exact csuC hS i (-1)
                have hF10 : Fr r M M10 := by rw [← eM10]; exact Fr.xa (by decide) (by decide)
                have hG10 : CG G M10 := CG.fr hG hr hF10
                have hw10 : wS G (uC S i (-1)) := (wS_uC_it hw (by omega))
                refine xi_aload_n dX6_enterIfFree_160 rfl ?_
                refine xi_iload_n dX6_enterIfFree_161 rfl ?_
                refine xi_iconst (v := 2) dX6_enterIfFree_162 rfl ?_
                refine xi_callV [.int (nI n), .int 2] [] dX6_enterIfFree_163 zX6_hurt mlX6_203 (so hr) rfl rfl rfl rfl rfl (Nat.le_of_ble_eq_true rfl) (Nat.le_of_ble_eq_true rfl) ⟨by decide, by decide⟩ ?_
                refine s_hurt hW hG10 hr hS10 hw10 (n := n) (l := 2) (by omega) (by omega) (fun M11 hF11 hS11 => ?_)
                have hG11 : CG G M11 := CG.fr hG10 hr hF11
                have hw11 : wS G (mhurt G (uC S i (-1)) n 2) := wS_hurt hw10 (by omega)
                show WP _ _ 166 _ [] _ _
                refine xi_iinc (v := nI (i + 1)) (lv' := [some (.ref r), some (.int (nI n)), some (.int (nI k)), some (.int (xb (decide (n < gP G)))), some (.int (nI (i + 1)))]) dX6_enterIfFree_166 rfl (xinc i) (by decide) rfl ?_
                refine xi_goto 36 dX6_enterIfFree_169 (by decide) ?_
                have e : mgoS G n k i S = (mhurt G (uC S i (-1)) n 2) := by first | (simp [mgoS, h65, h79, h135, h149]; done) | (exfalso; first | exact h65 h135 | exact h135 h65 | omega)
                have hw9 : wS G (mhurt G (uC S i (-1)) n 2) := by rw [← e]; exact wS_goS hw hn (by omega) h54
                exact ih (i + 1) (mhurt G (uC S i (-1)) n 2) M11 (by omega) hG11 hS11 hw9 (fun M9 hF9 hS9 => h M9 ((hF10.tr hF11).tr hF9) (by rw [mgoL, if_pos h54, e]; exact hS9))
          · skip
            refine xi_iload_n dX6_enterIfFree_82 rfl ?_
            refine xb_if_eq (decide (n < gP G)) 127 dX6_enterIfFree_83 (by decide) rfl (fun h83 => ?_) (fun h83 => ?_)
            · have h83p : ¬ n < gP G := by simpa using h83
              refine xi_aload_n dX6_enterIfFree_127 rfl ?_
              refine xi_getR dX6_enterIfFree_128 fgX6_9 (so hr) rfl ?_
              refine xi_iload dX6_enterIfFree_131 rfl ?_
              refine xe_iald (v := sC S i) i dX6_enterIfFree_133 (sa1 hr) (by decide) rfl (by omega) (csC hS (by omega)) ?_
              refine xi_iload_n dX6_enterIfFree_134 rfl ?_
              refine xi_icmp_ne 166 dX6_enterIfFree_135 (by decide) (fun h135 => ?_) (fun h135 => ?_)
              · skip
                refine xi_iinc (v := nI (i + 1)) (lv' := [some (.ref r), some (.int (nI n)), some (.int (nI k)), some (.int (xb (decide (n < gP G)))), some (.int (nI (i + 1)))]) dX6_enterIfFree_166 rfl (xinc i) (by decide) rfl ?_
                refine xi_goto 36 dX6_enterIfFree_169 (by decide) ?_
                have e : mgoS G n k i S = S := by first | (simp [mgoS, h65, h79, h135, h83p]; done) | (exfalso; first | exact h65 h135 | exact h135 h65 | omega)
                have hw9 : wS G S := by rw [← e]; exact wS_goS hw hn (by omega) h54
                exact ih (i + 1) S M (by omega) hG hS hw9 (fun M9 hF9 hS9 => h M9 (Fr.rf.tr hF9) (by rw [mgoL, if_pos h54, e]; exact hS9))
              · skip
                refine xi_aload_n dX6_enterIfFree_138 rfl ?_
                refine xi_getR dX6_enterIfFree_139 fgX6_39 (so hr) rfl ?_
                refine xi_getR dX6_enterIfFree_142 fgX6_72 cc1 rfl ?_
                refine xi_iload dX6_enterIfFree_145 rfl ?_
                have q13 : gkind G i ≤ 7 := hW.kind (by omega)
                refine xe_iald (v := nI (gkind G i)) i dX6_enterIfFree_147 cc8 (by decide) rfl (by omega) (cg_kind hG (by omega)) ?_
                refine xi_iconst (v := 4) dX6_enterIfFree_148 rfl ?_
                refine xn_icmp_ne (gkind G i) 4 166 dX6_enterIfFree_149 (by decide) rfl rfl (by omega) (by omega) (fun h149 => ?_) (fun h149 => ?_)
                · skip
                  refine xi_iinc (v := nI (i + 1)) (lv' := [some (.ref r), some (.int (nI n)), some (.int (nI k)), some (.int (xb (decide (n < gP G)))), some (.int (nI (i + 1)))]) dX6_enterIfFree_166 rfl (xinc i) (by decide) rfl ?_
                  refine xi_goto 36 dX6_enterIfFree_169 (by decide) ?_
                  have e : mgoS G n k i S = S := by first | (simp [mgoS, h65, h79, h135, h149, h83p]; done) | (exfalso; first | exact h65 h135 | exact h135 h65 | omega)
                  have hw9 : wS G S := by rw [← e]; exact wS_goS hw hn (by omega) h54
                  exact ih (i + 1) S M (by omega) hG hS hw9 (fun M9 hF9 hS9 => h M9 (Fr.rf.tr hF9) (by rw [mgoL, if_pos h54, e]; exact hS9))
                · skip
                  refine xi_aload_n dX6_enterIfFree_152 rfl ?_
                  refine xi_getR dX6_enterIfFree_153 fgX6_9 (so hr) rfl ?_
                  refine xi_iload dX6_enterIfFree_156 rfl ?_
                  refine xi_iconst (v := (-1)) dX6_enterIfFree_158 rfl ?_
                  refine xe_iast i dX6_enterIfFree_159 (sa1 hr) (by decide) rfl (by omega) ?_
                  generalize eM14 : (xa M (r + 1) (upd (M.2.1 (r + 1)) i (-1))) = M14
                  have hS14 : CS G (uC S i (-1)) M14 r := by rw [← eM14]; exact csuC hS i (-1)
                  have hF14 : Fr r M M14 := by rw [← eM14]; exact Fr.xa (by decide) (by decide)
                  have hG14 : CG G M14 := CG.fr hG hr hF14
                  have hw14 : wS G (uC S i (-1)) := (wS_uC_it hw (by omega))
                  refine xi_aload_n dX6_enterIfFree_160 rfl ?_
                  refine xi_iload_n dX6_enterIfFree_161 rfl ?_
                  refine xi_iconst (v := 2) dX6_enterIfFree_162 rfl ?_
                  refine xi_callV [.int (nI n), .int 2] [] dX6_enterIfFree_163 zX6_hurt mlX6_203 (so hr) rfl rfl rfl rfl rfl (Nat.le_of_ble_eq_true rfl) (Nat.le_of_ble_eq_true rfl) ⟨by decide, by decide⟩ ?_
                  refine s_hurt hW hG14 hr hS14 hw14 (n := n) (l := 2) (by omega) (by omega) (fun M15 hF15 hS15 => ?_)
                  have hG15 : CG G M15 := CG.fr hG14 hr hF15
                  have hw15 : wS G (mhurt G (uC S i (-1)) n 2) := wS_hurt hw14 (by omega)
                  show WP _ _ 166 _ [] _ _
                  refine xi_iinc (v := nI (i + 1)) (lv' := [some (.ref r), some (.int (nI n)), some (.int (nI k)), some (.int (xb (decide (n < gP G)))), some (.int (nI (i + 1)))]) dX6_enterIfFree_166 rfl (xinc i) (by decide) rfl ?_
                  refine xi_goto 36 dX6_enterIfFree_169 (by decide) ?_
                  have e : mgoS G n k i S = (mhurt G (uC S i (-1)) n 2) := by first | (simp [mgoS, h65, h79, h135, h149, h83p]; done) | (exfalso; first | exact h65 h135 | exact h135 h65 | omega)
                  have hw9 : wS G (mhurt G (uC S i (-1)) n 2) := by rw [← e]; exact wS_goS hw hn (by omega) h54
                  exact ih (i + 1) (mhurt G (uC S i (-1)) n 2) M15 (by omega) hG15 hS15 hw9 (fun M9 hF9 hS9 => h M9 ((hF14.tr hF15).tr hF9) (by rw [mgoL, if_pos h54, e]; exact hS9))
            · have h83p : n < gP G := by simpa using h83
              refine xi_aload_n dX6_enterIfFree_86 rfl ?_
              refine xi_getR dX6_enterIfFree_87 fgX6_9 (so hr) rfl ?_
              refine xi_iload dX6_enterIfFree_90 rfl ?_
              refine xi_iconst (v := (-1)) dX6_enterIfFree_92 rfl ?_
              refine xe_iast i dX6_enterIfFree_93 (sa1 hr) (by decide) rfl (by omega) ?_
              generalize eM16 : (xa M (r + 1) (upd (M.2.1 (r + 1)) i (-1))) = M16
              have hS16 : CS G (uC S i (-1)) M16 r := by rw [← eM16]; exact csuC hS i (-1)
              have hF16 : Fr r M M16 := by rw [← eM16]; exact Fr.xa (by decide) (by decide)
              have hG16 : CG G M16 := CG.fr hG hr hF16
              have hw16 : wS G (uC S i (-1)) := (wS_uC_it hw (by omega))
              refine xi_aload_n dX6_enterIfFree_94 rfl ?_
              refine xi_getR dX6_enterIfFree_95 fgX6_15 (so hr) rfl ?_
              refine xi_iload_n dX6_enterIfFree_98 rfl ?_
              refine xi_aload_n dX6_enterIfFree_99 rfl ?_
              refine xi_getR dX6_enterIfFree_100 fgX6_15 (so hr) rfl ?_
              refine xi_iload_n dX6_enterIfFree_103 rfl ?_
              refine xat 104 rfl ?_
              refine xe_iald (v := nI (sL S n)) n dX6_enterIfFree_104 (sa2 hr) (by decide) rfl (by omega) (csL hS16 (by omega)) ?_
              refine xi_iconst (v := 2) dX6_enterIfFree_105 rfl ?_
              refine xe_iadd dX6_enterIfFree_106 (v := nI (sL S n + 2)) (nI_add (sL S n) 2) ?_
              refine xi_iconst (v := 5) dX6_enterIfFree_107 rfl ?_
              refine xn_icmp_ge (sL S n + 2) 5 122 dX6_enterIfFree_108 (by decide) rfl rfl (by omega) (by omega) (fun h108 => ?_) (fun h108 => ?_)
              · skip
                refine xi_iconst (v := 5) dX6_enterIfFree_122 rfl ?_
                refine xe_iast n dX6_enterIfFree_123 (sa2 hr) (by decide) rfl (by omega) ?_
                generalize eM17 : (xa M16 (r + 2) (upd (M16.2.1 (r + 2)) n 5)) = M17
                have hS17 : CS G (uL (uC S i (-1)) n 5) M17 r := by rw [← eM17]; exact csuL hS16 n 5
                have hF17 : Fr r M16 M17 := by rw [← eM17]; exact Fr.xa (by decide) (by decide)
                have hG17 : CG G M17 := CG.fr hG16 hr hF17
                refine xi_goto 166 dX6_enterIfFree_124 (by decide) ?_
                refine xi_iinc (v := nI (i + 1)) (lv' := [some (.ref r), some (.int (nI n)), some (.int (nI k)), some (.int (xb (decide (n < gP G)))), some (.int (nI (i + 1)))]) dX6_enterIfFree_166 rfl (xinc i) (by decide) rfl ?_
                refine xi_goto 36 dX6_enterIfFree_169 (by decide) ?_
                have e : mgoS G n k i S = (uL (uC S i (-1)) n 5) := by first | (simp [mgoS, h65, h79, h83p, Nat.not_lt.mpr h108]; done) | (exfalso; first | exact h65 h135 | exact h135 h65 | omega)
                have hw9 : wS G (uL (uC S i (-1)) n 5) := by rw [← e]; exact wS_goS hw hn (by omega) h54
                exact ih (i + 1) (uL (uC S i (-1)) n 5) M17 (by omega) hG17 hS17 hw9 (fun M9 hF9 hS9 => h M9 ((hF16.tr hF17).tr hF9) (by rw [mgoL, if_pos h54, e]; exact hS9))
              · skip
                refine xi_aload_n dX6_enterIfFree_111 rfl ?_
                refine xi_getR dX6_enterIfFree_112 fgX6_15 (so hr) rfl ?_
                refine xi_iload_n dX6_enterIfFree_115 rfl ?_
                refine xe_iald (v := nI (sL S n)) n dX6_enterIfFree_116 (sa2 hr) (by decide) rfl (by omega) (csL hS16 (by omega)) ?_
                refine xi_iconst (v := 2) dX6_enterIfFree_117 rfl ?_
                refine xe_iadd dX6_enterIfFree_118 (v := nI (sL S n + 2)) (nI_add (sL S n) 2) ?_
                refine xi_goto 123 dX6_enterIfFree_119 (by decide) ?_
                refine xe_iast n dX6_enterIfFree_123 (sa2 hr) (by decide) rfl (by omega) ?_
                generalize eM18 : (xa M16 (r + 2) (upd (M16.2.1 (r + 2)) n (nI (sL S n + 2)))) = M18
                have hS18 : CS G (uL (uC S i (-1)) n (sL S n + 2)) M18 r := by rw [← eM18]; exact csuL hS16 n (sL S n + 2)
                have hF18 : Fr r M16 M18 := by rw [← eM18]; exact Fr.xa (by decide) (by decide)
                have hG18 : CG G M18 := CG.fr hG16 hr hF18
                refine xi_goto 166 dX6_enterIfFree_124 (by decide) ?_
                refine xi_iinc (v := nI (i + 1)) (lv' := [some (.ref r), some (.int (nI n)), some (.int (nI k)), some (.int (xb (decide (n < gP G)))), some (.int (nI (i + 1)))]) dX6_enterIfFree_166 rfl (xinc i) (by decide) rfl ?_
                refine xi_goto 36 dX6_enterIfFree_169 (by decide) ?_
                have e : mgoS G n k i S = (uL (uC S i (-1)) n (sL S n + 2)) := by first | (simp [mgoS, h65, h79, h83p, h108]; done) | (exfalso; first | exact h65 h135 | exact h135 h65 | omega)
                have hw9 : wS G (uL (uC S i (-1)) n (sL S n + 2)) := by rw [← e]; exact wS_goS hw hn (by omega) h54
                exact ih (i + 1) (uL (uC S i (-1)) n (sL S n + 2)) M18 (by omega) hG18 hS18 hw9 (fun M9 hF9 hS9 => h M9 ((hF16.tr hF18).tr hF9) (by rw [mgoL, if_pos h54, e]; exact hS9))

set_option maxHeartbeats 4000000 in
set_option maxRecDepth 100000 in
theorem s_enter {G : xG} {S : xS} {M : xM} {r : Nat} {Q : Option Value → xM → Prop} (hW : wG G) (hG : CG G M) (hr : isSt r) (hS : CS G S M r) (hw : wS G S) {n : Nat} {o : Option Nat} (hn : n < gT G) (ho : ∀ k, o = some k → k < gN G) (h : ∀ M2, Fr r M M2 → CS G (menter G S n o) M2 r → Q none M2) : WP shC mX6_enterIfFree 0 [some (.ref r), some (.int (nI n)), some (.int (xo o)), none, none] [] M Q := by
  obtain ⟨b1, b2, b3, b4, b5, b6, b7, b8, b9, wmap, wlink, wk0, wk1, b10, b11, wword⟩ := id hW
  refine xi_aload_n dX6_enterIfFree_0 rfl ?_
  refine xi_iload_n dX6_enterIfFree_1 rfl ?_
  refine xi_callV [.int (xo o)] [] dX6_enterIfFree_2 zX6_isFree mlX6_209 (so hr) rfl rfl rfl rfl rfl (Nat.le_of_ble_eq_true rfl) (Nat.le_of_ble_eq_true rfl) ⟨by decide, by decide⟩ ?_
  refine s_free hW hG hr hS hw (o := o) ho ?_
  show WP _ _ 5 _ [.int (xb (mfree G S o))] _ _
  refine xb_if_ne (mfree G S o) 9 dX6_enterIfFree_5 (by decide) rfl (fun h5 => ?_) (fun h5 => ?_)
  · skip
    obtain ⟨k, rfl⟩ : ∃ k, o = some k := by
      cases o with
      | none => simp [mfree] at h5
      | some k => exact ⟨k, rfl⟩
    have hk := ho k rfl
    show WP _ _ 9 [some (.ref r), some (.int (nI n)), some (.int (nI k)), none, none] [] _ _
    refine xi_aload_n dX6_enterIfFree_9 rfl ?_
    refine xi_getR dX6_enterIfFree_10 fgX6_9 (so hr) rfl ?_
    refine xi_iload_n dX6_enterIfFree_13 rfl ?_
    refine xi_iload_n dX6_enterIfFree_14 rfl ?_
    refine xe_iast n dX6_enterIfFree_15 (sa1 hr) (by decide) rfl (by omega) ?_
    generalize eM1 : (xa M (r + 1) (upd (M.2.1 (r + 1)) n (nI k))) = M1
    have hS1 : CS G (uC S n (nI k)) M1 r := by rw [← eM1]; exact csuC hS n (nI k)
    have hF1 : Fr r M M1 := by rw [← eM1]; exact Fr.xa (by decide) (by decide)
    have hG1 : CG G M1 := CG.fr hG hr hF1
    have hw1 : wS G (uC S n (nI k)) := (wS_uC_pos hw hk)
    refine xi_iload_n dX6_enterIfFree_16 rfl ?_
    refine xi_aload_n dX6_enterIfFree_17 rfl ?_
    refine xi_getR dX6_enterIfFree_18 fgX6_39 (so hr) rfl ?_
    refine xe_getI (v := nI (gP G)) dX6_enterIfFree_21 fgX6_49 cc1 rfl (cg_P hG1) ?_
    refine xn_icmp_ge n (gP G) 31 dX6_enterIfFree_24 (by decide) rfl rfl (by omega) (by omega) (fun h24 => ?_) (fun h24 => ?_)
    · skip
      refine xi_iconst (v := 0) dX6_enterIfFree_31 rfl ?_
      refine xi_istore_n (lv' := [some (.ref r), some (.int (nI n)), some (.int (nI k)), some (.int 0), none]) dX6_enterIfFree_32 (by decide) rfl ?_
      refine xi_iconst (v := 0) dX6_enterIfFree_33 rfl ?_
      refine xi_istore (lv' := [some (.ref r), some (.int (nI n)), some (.int (nI k)), some (.int 0), some (.int 0)]) dX6_enterIfFree_34 (by decide) rfl ?_
      refine xlv (lv' := [some (.ref r), some (.int (nI n)), some (.int (nI k)), some (.int (xb (decide (n < gP G)))), some (.int (nI 0))]) (by rw [xb_f (b := decide (n < gP G)) (by simp; omega)]; rfl) ?_
      refine l_enter hW hr hn hk (gT G) 0 _ _ (by omega) hG1 hS1 hw1 (fun M9 hF9 hS9 => h M9 (hF1.tr hF9) ?_)
      rw [menter, if_pos h5]
      exact hS9
    · skip
      refine xi_iconst (v := 1) dX6_enterIfFree_27 rfl ?_
      refine xi_goto 32 dX6_enterIfFree_28 (by decide) ?_
      refine xi_istore_n (lv' := [some (.ref r), some (.int (nI n)), some (.int (nI k)), some (.int 1), none]) dX6_enterIfFree_32 (by decide) rfl ?_
      refine xi_iconst (v := 0) dX6_enterIfFree_33 rfl ?_
      refine xi_istore (lv' := [some (.ref r), some (.int (nI n)), some (.int (nI k)), some (.int 1), some (.int 0)]) dX6_enterIfFree_34 (by decide) rfl ?_
      refine xlv (lv' := [some (.ref r), some (.int (nI n)), some (.int (nI k)), some (.int (xb (decide (n < gP G)))), some (.int (nI 0))]) (by rw [xb_t (b := decide (n < gP G)) (by simpa using h24)]; rfl) ?_
      refine l_enter hW hr hn hk (gT G) 0 _ _ (by omega) hG1 hS1 hw1 (fun M9 hF9 hS9 => h M9 (hF1.tr hF9) ?_)
      rw [menter, if_pos h5]
      exact hS9
  · skip
    refine xi_vret dX6_enterIfFree_8 rfl ?_
    refine h M Fr.rf ?_
    have e : menter G S n o = S := by cases o <;> simp [menter, h5]
    rw [e]
    exact hS

