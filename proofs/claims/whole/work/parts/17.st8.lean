set_option maxHeartbeats 4000000 in
set_option maxRecDepth 100000 in
theorem l_hunt {G : xG} {r : Nat} {Q : Option Value → xM → Prop} (hW : wG G) (hr : isSt r) {n tn : Nat} (hn : n < gT G) (ht : tn ≤ 2) : ∀ (f k : Nat) (S : xS) (M : xM), k + f = tn → CG G M → CS G S M r → wS G S → (∀ M2, Fr r M M2 → CS G (mhuntL G n f S) M2 r → WP shC mX6_moveBeasts 128 [some (.ref r), some (.int (nI n)), none, none, none, none] [] M2 Q) → WP shC mX6_moveBeasts 43 [some (.ref r), some (.int (nI n)), some (.int (nI tn)), some (.int 0), some (.int (nI k)), none] [] M Q := by
  obtain ⟨b1, b2, b3, b4, b5, b6, b7, b8, b9, wmap, wlink, wk0, wk1, b10, b11, wword⟩ := id hW
  intro f
  induction f with
  | zero =>
    intro k S M hf hG hS hw hx
    refine xi_iload dX6_moveBeasts_43 rfl ?_
    refine xi_iload_n dX6_moveBeasts_45 rfl ?_
    refine xn_icmp_ge k tn 128 dX6_moveBeasts_46 (by decide) rfl rfl (by omega) (by omega) (fun h46 => ?_) (fun h46 => ?_)
    · skip
      refine xi_drop [true, true, false, false, false, false] rfl ?_
      exact hx M Fr.rf hS
    · omega
  | succ f ih =>
    intro k S M hf hG hS hw hx
    refine xi_iload dX6_moveBeasts_43 rfl ?_
    refine xi_iload_n dX6_moveBeasts_45 rfl ?_
    refine xn_icmp_ge k tn 128 dX6_moveBeasts_46 (by decide) rfl rfl (by omega) (by omega) (fun h46 => ?_) (fun h46 => ?_)
    · omega
    · skip
      refine xi_aload_n dX6_moveBeasts_49 rfl ?_
      refine xi_getR dX6_moveBeasts_50 fgX6_15 (so hr) rfl ?_
      refine xi_iload_n dX6_moveBeasts_53 rfl ?_
      have q1 := (hw).2.1 n (by omega)
      refine xe_iald (v := nI (sL S n)) n dX6_moveBeasts_54 (sa2 hr) (by decide) rfl (by omega) (csL hS (by omega)) ?_
      refine xn_if_le (sL S n) 128 dX6_moveBeasts_55 (by decide) rfl (by omega) (fun h55 => ?_) (fun h55 => ?_)
      · skip
        refine xi_drop [true, true, false, false, false, false] rfl ?_
        have e : mhuntL G n (f + 1) S = S := by rw [mhuntL, if_neg (by omega)]
        rw [e] at hx
        exact hx M Fr.rf hS
      · skip
        refine xi_iload_n dX6_moveBeasts_58 rfl ?_
        refine xn_if_ne 0 128 dX6_moveBeasts_59 (by decide) rfl (by omega) (fun h59 => ?_) (fun h59 => ?_)
        · exact absurd rfl h59
        · skip
          have hkn := hw.2.2.1 n hn h55
          have hpn := mpos_at hW hw hn hkn
          refine xi_aload_n dX6_moveBeasts_62 rfl ?_
          refine xi_iload_n dX6_moveBeasts_63 rfl ?_
          refine xi_callV [.int (nI n)] [] dX6_moveBeasts_64 zX6_nearestTo mlX6_212 (so hr) rfl rfl rfl rfl rfl (Nat.le_of_ble_eq_true rfl) (Nat.le_of_ble_eq_true rfl) ⟨by decide, by decide⟩ ?_
          refine s_near hW hG hr hS hw (n := n) (by omega) (by omega) ?_
          show WP _ _ 67 _ [.int (xo (mprey G S n))] _ _
          generalize eo64 : mprey G S n = o64
          refine xi_istore (lv' := [some (.ref r), some (.int (nI n)), some (.int (nI tn)), some (.int 0), some (.int (nI k)), some (.int (xo o64))]) dX6_moveBeasts_67 (by decide) rfl ?_
          refine xi_iload dX6_moveBeasts_69 rfl ?_
          refine xo_if_lt o64 89 dX6_moveBeasts_71 (by decide) rfl (fun q z => by have := mprey_lt (eo64.trans z); omega) (fun h71 => ?_) (fun q h71 => ?_)
          · subst h71
            refine xi_iconst (v := 0) dX6_moveBeasts_89 rfl ?_
            refine xi_istore_n (lv' := [some (.ref r), some (.int (nI n)), some (.int (nI tn)), some (.int 0), some (.int (nI k)), some (.int (xo none))]) dX6_moveBeasts_90 (by decide) rfl ?_
            refine xi_iload_n dX6_moveBeasts_91 rfl ?_
            refine xn_if_eq 0 105 dX6_moveBeasts_92 (by decide) rfl (by omega) (fun h92 => ?_) (fun h92 => ?_)
            · skip
              refine xi_iload dX6_moveBeasts_105 rfl ?_
              refine xi_if_lt 122 dX6_moveBeasts_107 (by decide) (fun _ => ?_) (fun z => absurd (show xo none < 0 by decide) z)
              refine xi_iinc (v := nI (k + 1)) (lv' := [some (.ref r), some (.int (nI n)), some (.int (nI tn)), some (.int 0), some (.int (nI (k + 1))), some (.int (xo none))]) dX6_moveBeasts_122 rfl (xinc k) (by decide) rfl ?_
              refine xi_goto 43 dX6_moveBeasts_125 (by decide) ?_
              refine xi_drop [true, true, true, true, true, false] rfl ?_
              have e : mhuntL G n (f + 1) S = mhuntL G n f S := by rw [mhuntL, if_pos h55, eo64]
              rw [e] at hx
              exact ih (k + 1) S M (by omega) hG hS hw hx
            · exact absurd rfl h92
          · subst h71
            have hq := mprey_lt eo64
            have hkq := wk0 q hq
            have d1 : mdist G S n q < 100 := by have := mdx_bd hW (mpos S n) (mpos S q); have := mdy_bd hW hpn.2 (mpos_P hW hw hq).2; unfold mdist; omega
            refine xi_aload_n dX6_moveBeasts_74 rfl ?_
            refine xi_iload_n dX6_moveBeasts_75 rfl ?_
            refine xi_iload dX6_moveBeasts_76 rfl ?_
            refine xi_callV [.int (nI n), .int (xo (some q))] [] dX6_moveBeasts_78 zX6_distance mlX6_215 (so hr) rfl rfl rfl rfl rfl (Nat.le_of_ble_eq_true rfl) (Nat.le_of_ble_eq_true rfl) ⟨by decide, by decide⟩ ?_
            refine s_dist hW hG hr hS hw (n := n) (m := q) (by omega) (by omega) (by omega) (by omega) ?_
            show WP _ _ 81 _ [.int (nI (mdist G S n q))] _ _
            refine xi_iconst (v := 1) dX6_moveBeasts_81 rfl ?_
            refine xn_icmp_ne (mdist G S n q) 1 89 dX6_moveBeasts_82 (by decide) rfl rfl (by omega) (by omega) (fun h82 => ?_) (fun h82 => ?_)
            · skip
              refine xi_iconst (v := 0) dX6_moveBeasts_89 rfl ?_
              refine xi_istore_n (lv' := [some (.ref r), some (.int (nI n)), some (.int (nI tn)), some (.int 0), some (.int (nI k)), some (.int (xo (some q)))]) dX6_moveBeasts_90 (by decide) rfl ?_
              refine xi_iload_n dX6_moveBeasts_91 rfl ?_
              refine xn_if_eq 0 105 dX6_moveBeasts_92 (by decide) rfl (by omega) (fun h92 => ?_) (fun h92 => ?_)
              · skip
                refine xi_iload dX6_moveBeasts_105 rfl ?_
                refine xn_if_lt q 122 dX6_moveBeasts_107 (by decide) rfl (by omega) ?_
                refine xi_aload_n dX6_moveBeasts_110 rfl ?_
                refine xi_iload_n dX6_moveBeasts_111 rfl ?_
                refine xi_aload_n dX6_moveBeasts_112 rfl ?_
                refine xi_iload_n dX6_moveBeasts_113 rfl ?_
                refine xi_iload dX6_moveBeasts_114 rfl ?_
                refine xi_callV [.int (nI n), .int (xo (some q))] [.int (nI n), .ref r] dX6_moveBeasts_116 zX6_cellTowards mlX6_218 (so hr) rfl rfl rfl rfl rfl (Nat.le_of_ble_eq_true rfl) (Nat.le_of_ble_eq_true rfl) ⟨by decide, by decide⟩ ?_
                refine s_tow hW hG hr hS hw (n := n) (q := q) (by omega) (by omega) (by omega) (by omega) ?_
                show WP _ _ 119 _ [.int (xo (mtow G S n q)), .int (nI n), .ref r] _ _
                generalize eo116 : mtow G S n q = o116
                refine xi_callV [.int (nI n), .int (xo o116)] [] dX6_moveBeasts_119 zX6_enterIfFree mlX6_177 (so hr) rfl rfl rfl rfl rfl (Nat.le_of_ble_eq_true rfl) (Nat.le_of_ble_eq_true rfl) ⟨by decide, by decide⟩ ?_
                refine s_enter hW hG hr hS hw (n := n) (o := o116) (by omega) (fun j z => mtow_lt hW hpn.2 (eo116.trans z)) (fun M2 hF2 hS2 => ?_)
                have hG2 : CG G M2 := CG.fr hG hr hF2
                have hw2 : wS G (menter G S n o116) := wS_enter hw (by omega) (fun j z => mtow_lt hW hpn.2 (eo116.trans z))
                show WP _ _ 122 _ [] _ _
                refine xi_iinc (v := nI (k + 1)) (lv' := [some (.ref r), some (.int (nI n)), some (.int (nI tn)), some (.int 0), some (.int (nI (k + 1))), some (.int (xo (some q)))]) dX6_moveBeasts_122 rfl (xinc k) (by decide) rfl ?_
                refine xi_goto 43 dX6_moveBeasts_125 (by decide) ?_
                refine xi_drop [true, true, true, true, true, false] rfl ?_
                have e : mhuntL G n (f + 1) S = mhuntL G n f (menter G S n o116) := by rw [mhuntL, if_pos h55, eo64]; rw [← eo116]; exact if_neg h82
                rw [e] at hx
                exact ih (k + 1) (menter G S n o116) M2 (by omega) hG2 hS2 hw2 (fun M9 hF9 hS9 => hx M9 (hF2.tr hF9) hS9)
              · exact absurd rfl h92
            · skip
              refine xi_iconst (v := 1) dX6_moveBeasts_85 rfl ?_
              refine xi_goto 90 dX6_moveBeasts_86 (by decide) ?_
              refine xi_istore_n (lv' := [some (.ref r), some (.int (nI n)), some (.int (nI tn)), some (.int 1), some (.int (nI k)), some (.int (xo (some q)))]) dX6_moveBeasts_90 (by decide) rfl ?_
              refine xi_iload_n dX6_moveBeasts_91 rfl ?_
              refine xn_if_eq 1 105 dX6_moveBeasts_92 (by decide) rfl (by omega) (fun h92 => ?_) (fun h92 => ?_)
              · exact absurd h92 (by decide)
              · skip
                refine xi_aload_n dX6_moveBeasts_95 rfl ?_
                refine xi_iload dX6_moveBeasts_96 rfl ?_
                refine xi_iconst (v := 1) dX6_moveBeasts_98 rfl ?_
                refine xi_callV [.int (xo (some q)), .int 1] [] dX6_moveBeasts_99 zX6_hurt mlX6_203 (so hr) rfl rfl rfl rfl rfl (Nat.le_of_ble_eq_true rfl) (Nat.le_of_ble_eq_true rfl) ⟨by decide, by decide⟩ ?_
                refine s_hurt hW hG hr hS hw (n := q) (l := 1) (by omega) (by omega) (fun M3 hF3 hS3 => ?_)
                have hG3 : CG G M3 := CG.fr hG hr hF3
                have hw3 : wS G (mhurt G S q 1) := wS_hurt hw (by omega)
                show WP _ _ 102 _ [] _ _
                refine xi_goto 122 dX6_moveBeasts_102 (by decide) ?_
                refine xi_iinc (v := nI (k + 1)) (lv' := [some (.ref r), some (.int (nI n)), some (.int (nI tn)), some (.int 1), some (.int (nI (k + 1))), some (.int (xo (some q)))]) dX6_moveBeasts_122 rfl (xinc k) (by decide) rfl ?_
                refine xi_goto 43 dX6_moveBeasts_125 (by decide) ?_
                have e : mhuntL G n (f + 1) S = (mhurt G S q 1) := by rw [mhuntL, if_pos h55, eo64]; exact if_pos h82
                rw [e] at hx
                refine xi_iload dX6_moveBeasts_43 rfl ?_
                refine xi_iload_n dX6_moveBeasts_45 rfl ?_
                refine xn_icmp_ge (k + 1) tn 128 dX6_moveBeasts_46 (by decide) rfl rfl (by omega) (by omega) (fun h46 => ?_) (fun h46 => ?_)
                · skip
                  refine xi_drop [true, true, false, false, false, false] rfl ?_
                  exact hx M3 hF3 hS3
                · skip
                  refine xi_aload_n dX6_moveBeasts_49 rfl ?_
                  refine xi_getR dX6_moveBeasts_50 fgX6_15 (so hr) rfl ?_
                  refine xi_iload_n dX6_moveBeasts_53 rfl ?_
                  have q54 := (hw3).2.1 n (by omega)
                  refine xe_iald (v := nI (sL (mhurt G S q 1) n)) n dX6_moveBeasts_54 (sa2 hr) (by decide) rfl (by omega) (csL hS3 (by omega)) ?_
                  refine xn_if_le (sL (mhurt G S q 1) n) 128 dX6_moveBeasts_55 (by decide) rfl (by omega) (fun h55 => ?_) (fun h55 => ?_)
                  · skip
                    refine xi_drop [true, true, false, false, false, false] rfl ?_
                    exact hx M3 hF3 hS3
                  · skip
                    refine xi_iload_n dX6_moveBeasts_58 rfl ?_
                    refine xn_if_ne 1 128 dX6_moveBeasts_59 (by decide) rfl (by omega) (fun h59 => ?_) (fun h59 => ?_)
                    · skip
                      refine xi_drop [true, true, false, false, false, false] rfl ?_
                      exact hx M3 hF3 hS3
                    · omega

set_option maxHeartbeats 4000000 in
set_option maxRecDepth 100000 in
theorem l_beasts {G : xG} {r : Nat} {Q : Option Value → xM → Prop} (hW : wG G) (hr : isSt r) : ∀ (f n : Nat) (S : xS) (M : xM), n + f = gT G → gP G ≤ n → CG G M → CS G S M r → wS G S → (∀ M2, Fr r M M2 → CS G (mbeL G n f S) M2 r → Q none M2) → WP shC mX6_moveBeasts 8 [some (.ref r), some (.int (nI n)), none, none, none, none] [] M Q := by
  obtain ⟨b1, b2, b3, b4, b5, b6, b7, b8, b9, wmap, wlink, wk0, wk1, b10, b11, wword⟩ := id hW
  intro f
  induction f with
  | zero =>
    intro n S M hf hP hG hS hw h
    refine xi_iload_n dX6_moveBeasts_8 rfl ?_
    refine xi_aload_n dX6_moveBeasts_9 rfl ?_
    refine xi_getR dX6_moveBeasts_10 fgX6_39 (so hr) rfl ?_
    refine xe_getI (v := nI (gT G)) dX6_moveBeasts_13 fgX6_75 cc1 rfl (cg_T hG) ?_
    refine xn_icmp_ge n (gT G) 134 dX6_moveBeasts_16 (by decide) rfl rfl (by omega) (by omega) (fun h16 => ?_) (fun h16 => ?_)
    · skip
      refine xi_vret dX6_moveBeasts_134 rfl ?_
      exact h M Fr.rf hS
    · omega
  | succ f ih =>
    intro n S M hf hP hG hS hw h
    refine xi_iload_n dX6_moveBeasts_8 rfl ?_
    refine xi_aload_n dX6_moveBeasts_9 rfl ?_
    refine xi_getR dX6_moveBeasts_10 fgX6_39 (so hr) rfl ?_
    refine xe_getI (v := nI (gT G)) dX6_moveBeasts_13 fgX6_75 cc1 rfl (cg_T hG) ?_
    refine xn_icmp_ge n (gT G) 134 dX6_moveBeasts_16 (by decide) rfl rfl (by omega) (by omega) (fun h16 => ?_) (fun h16 => ?_)
    · omega
    · skip
      refine xi_aload_n dX6_moveBeasts_19 rfl ?_
      refine xi_getR dX6_moveBeasts_20 fgX6_39 (so hr) rfl ?_
      refine xi_getR dX6_moveBeasts_23 fgX6_72 cc1 rfl ?_
      refine xi_iload_n dX6_moveBeasts_26 rfl ?_
      have q1 : gkind G n ≤ 7 := hW.kind (by omega)
      refine xe_iald (v := nI (gkind G n)) n dX6_moveBeasts_27 cc8 (by decide) rfl (by omega) (cg_kind hG (by omega)) ?_
      refine xi_iconst (v := 2) dX6_moveBeasts_28 rfl ?_
      refine xn_icmp_ne (gkind G n) 2 36 dX6_moveBeasts_29 (by decide) rfl rfl (by omega) (by omega) (fun h29 => ?_) (fun h29 => ?_)
      · skip
        refine xi_iconst (v := 1) dX6_moveBeasts_36 rfl ?_
        refine xi_istore_n (lv' := [some (.ref r), some (.int (nI n)), some (.int 1), none, none, none]) dX6_moveBeasts_37 (by decide) rfl ?_
        refine xi_iconst (v := 0) dX6_moveBeasts_38 rfl ?_
        refine xi_istore_n (lv' := [some (.ref r), some (.int (nI n)), some (.int 1), some (.int 0), none, none]) dX6_moveBeasts_39 (by decide) rfl ?_
        refine xi_iconst (v := 0) dX6_moveBeasts_40 rfl ?_
        refine xi_istore (lv' := [some (.ref r), some (.int (nI n)), some (.int 1), some (.int 0), some (.int 0), none]) dX6_moveBeasts_41 (by decide) rfl ?_
        have e2 : (if gkind G n = 2 then 2 else 1) = 1 := by rw [if_neg h29]
        refine l_hunt hW hr (tn := 1) (by omega) (by omega) 1 0 S M (by omega) hG hS hw (fun M9 hF9 hS9 => ?_)
        refine xi_iinc (v := nI (n + 1)) (lv' := [some (.ref r), some (.int (nI (n + 1))), none, none, none, none]) dX6_moveBeasts_128 rfl (xinc n) (by decide) rfl ?_
        refine xi_goto 8 dX6_moveBeasts_131 (by decide) ?_
        exact ih (n + 1) _ M9 (by omega) (by omega) (CG.fr hG hr hF9) hS9 (wS_hunt hW hw (by omega)) (fun M8 hF8 hS8 => h M8 (hF9.tr hF8) (by rw [mbeL, e2]; exact hS8))
      · skip
        refine xi_iconst (v := 2) dX6_moveBeasts_32 rfl ?_
        refine xi_goto 37 dX6_moveBeasts_33 (by decide) ?_
        refine xi_istore_n (lv' := [some (.ref r), some (.int (nI n)), some (.int 2), none, none, none]) dX6_moveBeasts_37 (by decide) rfl ?_
        refine xi_iconst (v := 0) dX6_moveBeasts_38 rfl ?_
        refine xi_istore_n (lv' := [some (.ref r), some (.int (nI n)), some (.int 2), some (.int 0), none, none]) dX6_moveBeasts_39 (by decide) rfl ?_
        refine xi_iconst (v := 0) dX6_moveBeasts_40 rfl ?_
        refine xi_istore (lv' := [some (.ref r), some (.int (nI n)), some (.int 2), some (.int 0), some (.int 0), none]) dX6_moveBeasts_41 (by decide) rfl ?_
        have e2 : (if gkind G n = 2 then 2 else 1) = 2 := by rw [if_pos h29]
        refine l_hunt hW hr (tn := 2) (by omega) (by omega) 2 0 S M (by omega) hG hS hw (fun M9 hF9 hS9 => ?_)
        refine xi_iinc (v := nI (n + 1)) (lv' := [some (.ref r), some (.int (nI (n + 1))), none, none, none, none]) dX6_moveBeasts_128 rfl (xinc n) (by decide) rfl ?_
        refine xi_goto 8 dX6_moveBeasts_131 (by decide) ?_
        exact ih (n + 1) _ M9 (by omega) (by omega) (CG.fr hG hr hF9) hS9 (wS_hunt hW hw (by omega)) (fun M8 hF8 hS8 => h M8 (hF9.tr hF8) (by rw [mbeL, e2]; exact hS8))

set_option maxHeartbeats 4000000 in
set_option maxRecDepth 100000 in
theorem s_beasts {G : xG} {S : xS} {M : xM} {r : Nat} {Q : Option Value → xM → Prop} (hW : wG G) (hG : CG G M) (hr : isSt r) (hS : CS G S M r) (hw : wS G S)  (h : ∀ M2, Fr r M M2 → CS G (mbeasts G S) M2 r → Q none M2) : WP shC mX6_moveBeasts 0 [some (.ref r), none, none, none, none, none] [] M Q := by
  obtain ⟨b1, b2, b3, b4, b5, b6, b7, b8, b9, wmap, wlink, wk0, wk1, b10, b11, wword⟩ := id hW
  refine xi_aload_n dX6_moveBeasts_0 rfl ?_
  refine xi_getR dX6_moveBeasts_1 fgX6_39 (so hr) rfl ?_
  refine xe_getI (v := nI (gP G)) dX6_moveBeasts_4 fgX6_49 cc1 rfl (cg_P hG) ?_
  refine xi_istore_n (lv' := [some (.ref r), some (.int (nI (gP G))), none, none, none, none]) dX6_moveBeasts_7 (by decide) rfl ?_
  exact l_beasts hW hr (gT G - gP G) (gP G) S M (by omega) (by omega) hG hS hw h

set_option maxHeartbeats 4000000 in
set_option maxRecDepth 100000 in
theorem l_plates {G : xG} {r : Nat} {Q : Option Value → xM → Prop} (hW : wG G) (hr : isSt r) : ∀ (f p : Nat) (S : xS) (M : xM), p + f = gP G → CG G M → CS G S M r → wS G S → (∀ M2, Fr r M M2 → CS G (mplL G p f S) M2 r → Q none M2) → WP shC mX6_readPlates 2 [some (.ref r), some (.int (nI p))] [] M Q := by
  obtain ⟨b1, b2, b3, b4, b5, b6, b7, b8, b9, wmap, wlink, wk0, wk1, b10, b11, wword⟩ := id hW
  intro f
  induction f with
  | zero =>
    intro p S M hf hG hS hw h
    refine xi_iload_n dX6_readPlates_2 rfl ?_
    refine xi_aload_n dX6_readPlates_3 rfl ?_
    refine xi_getR dX6_readPlates_4 fgX6_39 (so hr) rfl ?_
    refine xe_getI (v := nI (gP G)) dX6_readPlates_7 fgX6_49 cc1 rfl (cg_P hG) ?_
    refine xn_icmp_ge p (gP G) 71 dX6_readPlates_10 (by decide) rfl rfl (by omega) (by omega) (fun h10 => ?_) (fun h10 => ?_)
    · skip
      refine xi_vret dX6_readPlates_71 rfl ?_
      exact h M Fr.rf hS
    · omega
  | succ f ih =>
    intro p S M hf hG hS hw h
    refine xi_iload_n dX6_readPlates_2 rfl ?_
    refine xi_aload_n dX6_readPlates_3 rfl ?_
    refine xi_getR dX6_readPlates_4 fgX6_39 (so hr) rfl ?_
    refine xe_getI (v := nI (gP G)) dX6_readPlates_7 fgX6_49 cc1 rfl (cg_P hG) ?_
    refine xn_icmp_ge p (gP G) 71 dX6_readPlates_10 (by decide) rfl rfl (by omega) (by omega) (fun h10 => ?_) (fun h10 => ?_)
    · omega
    · skip
      have hp : p < gP G := by omega
      have hmp := mpos_P hW hw hp
      refine xi_aload_n dX6_readPlates_13 rfl ?_
      refine xi_getR dX6_readPlates_14 fgX6_15 (so hr) rfl ?_
      refine xi_iload_n dX6_readPlates_17 rfl ?_
      have q1 := (hw).2.1 p (by omega)
      refine xe_iald (v := nI (sL S p)) p dX6_readPlates_18 (sa2 hr) (by decide) rfl (by omega) (csL hS (by omega)) ?_
      refine xn_if_le (sL S p) 65 dX6_readPlates_19 (by decide) rfl (by omega) (fun h19 => ?_) (fun h19 => ?_)
      · skip
        refine xi_iinc (v := nI (p + 1)) (lv' := [some (.ref r), some (.int (nI (p + 1)))]) dX6_readPlates_65 rfl (xinc p) (by decide) rfl ?_
        refine xi_goto 2 dX6_readPlates_68 (by decide) ?_
        exact ih (p + 1) S M (by omega) hG hS hw (fun M9 hF9 hS9 => h M9 (Fr.rf.tr hF9) (by rw [mplL, if_neg (fun w => by omega)]; exact hS9))
      · skip
        refine xi_aload_n dX6_readPlates_22 rfl ?_
        refine xi_getR dX6_readPlates_23 fgX6_39 (so hr) rfl ?_
        refine xi_getR dX6_readPlates_26 fgX6_78 cc1 rfl ?_
        refine xi_aload_n dX6_readPlates_29 rfl ?_
        refine xi_getR dX6_readPlates_30 fgX6_9 (so hr) rfl ?_
        refine xi_iload_n dX6_readPlates_33 rfl ?_
        refine xe_iald (v := nI (mpos S p)) p dX6_readPlates_34 (sa1 hr) (by decide) rfl (by omega) ((csC hS (by omega)).trans hmp.1) ?_
        have q2 := wmap (mpos S p) (by omega)
        refine xe_iald (v := nI (gmap G (mpos S p))) (mpos S p) dX6_readPlates_35 cc2 (by decide) rfl (by omega) (cg_map hG (by omega)) ?_
        refine xi_iconst (v := 3) dX6_readPlates_36 rfl ?_
        refine xn_icmp_ne (gmap G (mpos S p)) 3 65 dX6_readPlates_37 (by decide) rfl rfl (by omega) (by omega) (fun h37 => ?_) (fun h37 => ?_)
        · skip
          refine xi_iinc (v := nI (p + 1)) (lv' := [some (.ref r), some (.int (nI (p + 1)))]) dX6_readPlates_65 rfl (xinc p) (by decide) rfl ?_
          refine xi_goto 2 dX6_readPlates_68 (by decide) ?_
          exact ih (p + 1) S M (by omega) hG hS hw (fun M9 hF9 hS9 => h M9 (Fr.rf.tr hF9) (by rw [mplL, if_neg (fun w => h37 w.2)]; exact hS9))
        · skip
          refine xi_aload_n dX6_readPlates_40 rfl ?_
          refine xi_getR dX6_readPlates_41 fgX6_33 (so hr) rfl ?_
          refine xi_iload_n dX6_readPlates_44 rfl ?_
          refine xi_dup2 dX6_readPlates_45 rfl rfl ?_
          refine xe_iald (v := sK S p) p dX6_readPlates_46 (sa8 hr) (by decide) rfl (by omega) (csK hS (by omega)) ?_
          refine xi_iconst (v := 1) dX6_readPlates_47 rfl ?_
          refine xi_aload_n dX6_readPlates_48 rfl ?_
          refine xi_getR dX6_readPlates_49 fgX6_39 (so hr) rfl ?_
          refine xi_getR dX6_readPlates_52 fgX6_81 cc1 rfl ?_
          refine xi_aload_n dX6_readPlates_55 rfl ?_
          refine xi_getR dX6_readPlates_56 fgX6_9 (so hr) rfl ?_
          refine xat 59 rfl ?_
          refine xi_iload_n dX6_readPlates_59 rfl ?_
          refine xe_iald (v := nI (mpos S p)) p dX6_readPlates_60 (sa1 hr) (by decide) rfl (by omega) ((csC hS (by omega)).trans hmp.1) ?_
          have q4 := wlink (mpos S p) (by omega) (by omega)
          refine xe_iald (v := nI (glink G (mpos S p))) (mpos S p) dX6_readPlates_61 cc3 (by decide) rfl (by omega) (cg_link hG (by omega) (by omega)) ?_
          refine xi_ishl dX6_readPlates_62 ?_
          refine xe_ior dX6_readPlates_63 (v := (sK S p ||| ((1 : Int32) <<< (nI (glink G (mpos S p)) &&& 31)))) rfl ?_
          refine xe_iast p dX6_readPlates_64 (sa8 hr) (by decide) rfl (by omega) ?_
          generalize eM5 : (xa M (r + 8) (upd (M.2.1 (r + 8)) p (sK S p ||| ((1 : Int32) <<< (nI (glink G (mpos S p)) &&& 31))))) = M5
          have hS5 : CS G (uK S p (sK S p ||| ((1 : Int32) <<< (nI (glink G (mpos S p)) &&& 31)))) M5 r := by rw [← eM5]; exact csuK hS p (sK S p ||| ((1 : Int32) <<< (nI (glink G (mpos S p)) &&& 31)))
          have hF5 : Fr r M M5 := by rw [← eM5]; exact Fr.xa (by decide) (by decide)
          have hG5 : CG G M5 := CG.fr hG hr hF5
          have hw5 : wS G (uK S p (sK S p ||| ((1 : Int32) <<< (nI (glink G (mpos S p)) &&& 31)))) := (wS_uK hw)
          refine xi_iinc (v := nI (p + 1)) (lv' := [some (.ref r), some (.int (nI (p + 1)))]) dX6_readPlates_65 rfl (xinc p) (by decide) rfl ?_
          refine xi_goto 2 dX6_readPlates_68 (by decide) ?_
          exact ih (p + 1) (uK S p (sK S p ||| ((1 : Int32) <<< (nI (glink G (mpos S p)) &&& 31)))) M5 (by omega) hG5 hS5 hw5 (fun M9 hF9 hS9 => h M9 (hF5.tr hF9) (by rw [mplL, if_pos ⟨h19, h37⟩]; exact hS9))

set_option maxHeartbeats 4000000 in
set_option maxRecDepth 100000 in
theorem s_plates {G : xG} {S : xS} {M : xM} {r : Nat} {Q : Option Value → xM → Prop} (hW : wG G) (hG : CG G M) (hr : isSt r) (hS : CS G S M r) (hw : wS G S)  (h : ∀ M2, Fr r M M2 → CS G (mplates G S) M2 r → Q none M2) : WP shC mX6_readPlates 0 [some (.ref r), none] [] M Q := by
  obtain ⟨b1, b2, b3, b4, b5, b6, b7, b8, b9, wmap, wlink, wk0, wk1, b10, b11, wword⟩ := id hW
  refine xi_iconst (v := 0) dX6_readPlates_0 rfl ?_
  refine xi_istore_n (lv' := [some (.ref r), some (.int 0)]) dX6_readPlates_1 (by decide) rfl ?_
  exact l_plates hW hr (gP G) 0 S M (by omega) hG hS hw h

set_option maxHeartbeats 4000000 in
set_option maxRecDepth 100000 in
theorem l_end {G : xG} {r : Nat} {Q : Option Value → xM → Prop} (hW : wG G) (hr : isSt r) : ∀ (f p : Nat) (S : xS) (M : xM), p + f = gP G → CG G M → CS G S M r → wS G S → (∀ M2, Fr r M M2 → CS G (mplates G (menL G p f S)) M2 r → Q none M2) → WP shC mX6_endTick 2 [some (.ref r), some (.int (nI p))] [] M Q := by
  obtain ⟨b1, b2, b3, b4, b5, b6, b7, b8, b9, wmap, wlink, wk0, wk1, b10, b11, wword⟩ := id hW
  intro f
  induction f with
  | zero =>
    intro p S M hf hG hS hw h
    refine xi_iload_n dX6_endTick_2 rfl ?_
    refine xi_aload_n dX6_endTick_3 rfl ?_
    refine xi_getR dX6_endTick_4 fgX6_39 (so hr) rfl ?_
    refine xe_getI (v := nI (gP G)) dX6_endTick_7 fgX6_49 cc1 rfl (cg_P hG) ?_
    refine xn_icmp_ge p (gP G) 58 dX6_endTick_10 (by decide) rfl rfl (by omega) (by omega) (fun h10 => ?_) (fun h10 => ?_)
    · skip
      refine xi_aload_n dX6_endTick_58 rfl ?_
      refine xi_callV [] [] dX6_endTick_59 zX6_readPlates mlX6_227 (so hr) rfl rfl rfl rfl rfl (Nat.le_of_ble_eq_true rfl) (Nat.le_of_ble_eq_true rfl) ⟨by decide, by decide⟩ ?_
      refine s_plates hW hG hr hS hw  (fun M1 hF1 hS1 => ?_)
      have hG1 : CG G M1 := CG.fr hG hr hF1
      have hw1 : wS G (mplates G S) := wS_plates hw
      show WP _ _ 62 _ [] _ _
      refine xi_vret dX6_endTick_62 rfl ?_
      exact h M1 hF1 hS1
    · omega
  | succ f ih =>
    intro p S M hf hG hS hw h
    refine xi_iload_n dX6_endTick_2 rfl ?_
    refine xi_aload_n dX6_endTick_3 rfl ?_
    refine xi_getR dX6_endTick_4 fgX6_39 (so hr) rfl ?_
    refine xe_getI (v := nI (gP G)) dX6_endTick_7 fgX6_49 cc1 rfl (cg_P hG) ?_
    refine xn_icmp_ge p (gP G) 58 dX6_endTick_10 (by decide) rfl rfl (by omega) (by omega) (fun h10 => ?_) (fun h10 => ?_)
    · omega
    · skip
      refine xi_aload_n dX6_endTick_13 rfl ?_
      refine xi_iload_n dX6_endTick_14 rfl ?_
      refine xi_bipush (v := 7) dX6_endTick_15 (by decide) ?_
      refine xi_callV [.int (nI p), .int 7] [] dX6_endTick_17 zX6_carries mlX6_112 (so hr) rfl rfl rfl rfl rfl (Nat.le_of_ble_eq_true rfl) (Nat.le_of_ble_eq_true rfl) ⟨by decide, by decide⟩ ?_
      refine s_car hW hG hr hS hw (p := p) (q := 7) (by omega) (by omega) ?_
      show WP _ _ 20 _ [.int (xb (mcar G S p 7))] _ _
      refine xb_if_eq (mcar G S p 7) 33 dX6_endTick_20 (by decide) rfl (fun h20 => ?_) (fun h20 => ?_)
      · skip
        refine xi_aload_n dX6_endTick_33 rfl ?_
        refine xi_getR dX6_endTick_34 fgX6_24 (so hr) rfl ?_
        refine xi_iload_n dX6_endTick_37 rfl ?_
        have q1 := (hw).2.2.2.1 p (by omega)
        refine xe_iald (v := nI (sR S p)) p dX6_endTick_38 (sa5 hr) (by decide) rfl (by omega) (csR hS (by omega)) ?_
        refine xn_if_le (sR S p) 52 dX6_endTick_39 (by decide) rfl (by omega) (fun h39 => ?_) (fun h39 => ?_)
        · skip
          refine xi_iinc (v := nI (p + 1)) (lv' := [some (.ref r), some (.int (nI (p + 1)))]) dX6_endTick_52 rfl (xinc p) (by decide) rfl ?_
          refine xi_goto 2 dX6_endTick_55 (by decide) ?_
          have e : men2 p (men1 G p S) = S := by rw [men1, if_neg (by simp [h20])]; exact if_neg (by omega)
          exact ih (p + 1) S M (by omega) hG hS hw (fun M9 hF9 hS9 => h M9 (Fr.rf.tr hF9) (by rw [menL, e]; exact hS9))
        · skip
          refine xi_aload_n dX6_endTick_42 rfl ?_
          refine xi_getR dX6_endTick_43 fgX6_24 (so hr) rfl ?_
          refine xi_iload_n dX6_endTick_46 rfl ?_
          refine xi_dup2 dX6_endTick_47 rfl rfl ?_
          have q2 := (hw).2.2.2.1 p (by omega)
          refine xe_iald (v := nI (sR S p)) p dX6_endTick_48 (sa5 hr) (by decide) rfl (by omega) (csR hS (by omega)) ?_
          refine xi_iconst (v := 1) dX6_endTick_49 rfl ?_
          refine xe_isub dX6_endTick_50 (v := nI (sR S p - 1)) (pk_sub (b := 1) (by omega)) ?_
          refine xe_iast p dX6_endTick_51 (sa5 hr) (by decide) rfl (by omega) ?_
          generalize eM3 : (xa M (r + 5) (upd (M.2.1 (r + 5)) p (nI (sR S p - 1)))) = M3
          have hS3 : CS G (uR S p (sR S p - 1)) M3 r := by rw [← eM3]; exact csuR hS p (sR S p - 1)
          have hF3 : Fr r M M3 := by rw [← eM3]; exact Fr.xa (by decide) (by decide)
          have hG3 : CG G M3 := CG.fr hG hr hF3
          have hw3 : wS G (uR S p (sR S p - 1)) := (wS_uR hw (by omega))
          refine xi_iinc (v := nI (p + 1)) (lv' := [some (.ref r), some (.int (nI (p + 1)))]) dX6_endTick_52 rfl (xinc p) (by decide) rfl ?_
          refine xi_goto 2 dX6_endTick_55 (by decide) ?_
          have e : men2 p (men1 G p S) = (uR S p (sR S p - 1)) := by rw [men1, if_neg (by simp [h20])]; exact if_pos h39
          exact ih (p + 1) (uR S p (sR S p - 1)) M3 (by omega) hG3 hS3 hw3 (fun M9 hF9 hS9 => h M9 (hF3.tr hF9) (by rw [menL, e]; exact hS9))
      · skip
        refine xi_aload_n dX6_endTick_23 rfl ?_
        refine xi_getR dX6_endTick_24 fgX6_30 (so hr) rfl ?_
        refine xi_iload_n dX6_endTick_27 rfl ?_
        refine xi_dup2 dX6_endTick_28 rfl rfl ?_
        refine xe_iald (v := sP S p) p dX6_endTick_29 (sa7 hr) (by decide) rfl (by omega) (csP hS (by omega)) ?_
        refine xi_iconst (v := 1) dX6_endTick_30 rfl ?_
        refine xi_iadd dX6_endTick_31 ?_
        refine xe_iast p dX6_endTick_32 (sa7 hr) (by decide) rfl (by omega) ?_
        generalize eM5 : (xa M (r + 7) (upd (M.2.1 (r + 7)) p (sP S p + 1))) = M5
        have hS5 : CS G (uP S p (sP S p + 1)) M5 r := by rw [← eM5]; exact csuP hS p (sP S p + 1)
        have hF5 : Fr r M M5 := by rw [← eM5]; exact Fr.xa (by decide) (by decide)
        have hG5 : CG G M5 := CG.fr hG hr hF5
        have hw5 : wS G (uP S p (sP S p + 1)) := (wS_uP hw)
        refine xi_aload_n dX6_endTick_33 rfl ?_
        refine xi_getR dX6_endTick_34 fgX6_24 (so hr) rfl ?_
        refine xi_iload_n dX6_endTick_37 rfl ?_
        refine xat 38 rfl ?_
        have q6 := (hw5).2.2.2.1 p (by omega)
        refine xe_iald (v := nI (sR (uP S p (sP S p + 1)) p)) p dX6_endTick_38 (sa5 hr) (by decide) rfl (by omega) (csR hS5 (by omega)) ?_
        refine xn_if_le (sR (uP S p (sP S p + 1)) p) 52 dX6_endTick_39 (by decide) rfl (by omega) (fun h39 => ?_) (fun h39 => ?_)
        · skip
          refine xi_iinc (v := nI (p + 1)) (lv' := [some (.ref r), some (.int (nI (p + 1)))]) dX6_endTick_52 rfl (xinc p) (by decide) rfl ?_
          refine xi_goto 2 dX6_endTick_55 (by decide) ?_
          have e : men2 p (men1 G p S) = (uP S p (sP S p + 1)) := by rw [men1, if_pos h20]; exact if_neg (by omega)
          exact ih (p + 1) (uP S p (sP S p + 1)) M5 (by omega) hG5 hS5 hw5 (fun M9 hF9 hS9 => h M9 (hF5.tr hF9) (by rw [menL, e]; exact hS9))
        · skip
          refine xi_aload_n dX6_endTick_42 rfl ?_
          refine xi_getR dX6_endTick_43 fgX6_24 (so hr) rfl ?_
          refine xi_iload_n dX6_endTick_46 rfl ?_
          refine xi_dup2 dX6_endTick_47 rfl rfl ?_
          have q7 := (hw5).2.2.2.1 p (by omega)
          refine xe_iald (v := nI (sR (uP S p (sP S p + 1)) p)) p dX6_endTick_48 (sa5 hr) (by decide) rfl (by omega) (csR hS5 (by omega)) ?_
          refine xi_iconst (v := 1) dX6_endTick_49 rfl ?_
          refine xe_isub dX6_endTick_50 (v := nI (sR (uP S p (sP S p + 1)) p - 1)) (pk_sub (b := 1) (by omega)) ?_
          refine xe_iast p dX6_endTick_51 (sa5 hr) (by decide) rfl (by omega) ?_
          generalize eM8 : (xa M5 (r + 5) (upd (M5.2.1 (r + 5)) p (nI (sR (uP S p (sP S p + 1)) p - 1)))) = M8
          have hS8 : CS G (uR (uP S p (sP S p + 1)) p (sR (uP S p (sP S p + 1)) p - 1)) M8 r := by rw [← eM8]; exact csuR hS5 p (sR (uP S p (sP S p + 1)) p - 1)
          have hF8 : Fr r M5 M8 := by rw [← eM8]; exact Fr.xa (by decide) (by decide)
          have hG8 : CG G M8 := CG.fr hG5 hr hF8
          have hw8 : wS G (uR (uP S p (sP S p + 1)) p (sR (uP S p (sP S p + 1)) p - 1)) := (wS_uR hw5 (by omega))
          refine xi_iinc (v := nI (p + 1)) (lv' := [some (.ref r), some (.int (nI (p + 1)))]) dX6_endTick_52 rfl (xinc p) (by decide) rfl ?_
          refine xi_goto 2 dX6_endTick_55 (by decide) ?_
          have e : men2 p (men1 G p S) = (uR (uP S p (sP S p + 1)) p (sR (uP S p (sP S p + 1)) p - 1)) := by rw [men1, if_pos h20]; exact if_pos h39
          exact ih (p + 1) (uR (uP S p (sP S p + 1)) p (sR (uP S p (sP S p + 1)) p - 1)) M8 (by omega) hG8 hS8 hw8 (fun M9 hF9 hS9 => h M9 ((hF5.tr hF8).tr hF9) (by rw [menL, e]; exact hS9))

set_option maxHeartbeats 4000000 in
set_option maxRecDepth 100000 in
theorem s_end {G : xG} {S : xS} {M : xM} {r : Nat} {Q : Option Value → xM → Prop} (hW : wG G) (hG : CG G M) (hr : isSt r) (hS : CS G S M r) (hw : wS G S)  (h : ∀ M2, Fr r M M2 → CS G (mend G S) M2 r → Q none M2) : WP shC mX6_endTick 0 [some (.ref r), none] [] M Q := by
  obtain ⟨b1, b2, b3, b4, b5, b6, b7, b8, b9, wmap, wlink, wk0, wk1, b10, b11, wword⟩ := id hW
  refine xi_iconst (v := 0) dX6_endTick_0 rfl ?_
  refine xi_istore_n (lv' := [some (.ref r), some (.int 0)]) dX6_endTick_1 (by decide) rfl ?_
  exact l_end hW hr (gP G) 0 S M (by omega) hG hS hw h

