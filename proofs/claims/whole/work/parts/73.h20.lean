/-- nothing but the cells r .. r + 4 is changed -/
def FU (r : Nat) (M M2 : xM) : Prop := ∀ a, (a < r ∨ r + 4 < a) → M2.1 a = M.1 a ∧ M2.2.1 a = M.2.1 a ∧ M2.2.2 a = M.2.2 a
theorem FU.rf {r : Nat} {M : xM} : FU r M M := fun _ _ => ⟨rfl, rfl, rfl⟩
theorem FU.tr {r : Nat} {M M1 M2 : xM} (h : FU r M M1) (h2 : FU r M1 M2) : FU r M M2 := fun a ha => ⟨(h2 a ha).1.trans (h a ha).1, (h2 a ha).2.1.trans (h a ha).2.1, (h2 a ha).2.2.trans (h a ha).2.2⟩
theorem FU.fo {r : Nat} {M M2 : xM} (h : FO (r + 1) M M2) : FU r M M2 := fun a ha => ⟨h.1 a (by omega), h.2.2 a (by omega), by rw [h.2.1]⟩
theorem FU.fs {r : Nat} {M M2 : xM} (h : FS r M M2) : FU r M M2 := fun a ha => ⟨h.1 a (by omega) (by omega), h.2.2.1 a (by omega), by rw [h.2.1]⟩
theorem FU.xf {r k : Nat} {M : xM} {v : Int32} : FU r M (xf M r k v) := fun a ha => ⟨xf_o (by omega), rfl, rfl⟩
theorem mlk_if {G : xG} {S : xS} {A H : Nat → Nat} {t risk now p : Nat} {w : xw} (h : 0 < sL S p ∧ ¬ A (t * 4 + p) % 16 = 0) : mlk G S A H t risk now p w = (va_up (va_up w.1 (2 * p) (mforO G S p (A (t * 4 + p)) (H (t * 4 + p)) risk now (w.1 (2 * p)))) (2 * p + 1) (mgapO (w.1 (2 * p + 1)) (w.2.1 p) (w.2.2 p) t risk now), va_up w.2.1 p (some t), va_up w.2.2 p (mgapG (w.2.1 p) t)) := if_pos h
theorem mlk_no {G : xG} {S : xS} {A H : Nat → Nat} {t risk now p : Nat} {w : xw} (h : ¬ (0 < sL S p ∧ ¬ A (t * 4 + p) % 16 = 0)) : mlk G S A H t risk now p w = w := if_neg h
/-- the watch of one player behind a look -/
theorem KWp.step {w : xw} {f : Bool → Nat} {p t : Nat} {M M1 M2 : xM} {o1 o2 : xO} {g : Option Nat} (h : KWp w f p M) (F1 : FO (23 + 5 * p + 1) M M1) (O1 : CO o1 M1 (23 + 5 * p + 1)) (F2 : FS (23 + 5 * p) M1 M2) (O2 : CO o2 M2 (23 + 5 * p + 3)) (k4 : M2.1 (23 + 5 * p) 4 = xo (some t)) (k5 : M2.1 (23 + 5 * p) 5 = xo g) : KWp (va_up (va_up w.1 (2 * p) o1) (2 * p + 1) o2, va_up w.2.1 p (some t), va_up w.2.2 p g) f p M2 := by
  refine ⟨?_, ?_, ?_, ?_, ?_, ?_⟩
  · show CO (va_up (va_up w.1 (2 * p) o1) (2 * p + 1) o2 (2 * p)) M2 (23 + 5 * p + 1)
    rw [up_n (by omega), up_s]
    exact O1.sm (fun a q1 q2 => ⟨F2.1 a (by omega) (by omega), F2.2.2.1 a (by omega), by rw [F2.2.1]⟩)
  · show CO (va_up (va_up w.1 (2 * p) o1) (2 * p + 1) o2 (2 * p + 1)) M2 (23 + 5 * p + 3)
    rw [up_s]; exact O2
  · rw [F2.2.2.2.1, F1.1 _ (by omega)]; exact h.2.2.1
  · rw [F2.2.2.2.2, F1.1 _ (by omega)]; exact h.2.2.2.1
  · show M2.1 (23 + 5 * p) 4 = xo (va_up w.2.1 p (some t) p)
    rw [up_s]; exact k4
  · show M2.1 (23 + 5 * p) 5 = xo (va_up w.2.2 p g p)
    rw [up_s]; exact k5
theorem mshotC_le {G : xG} {S : xS} {p d j : Nat} (h : mshotC G S p d = some j) : j ≤ 1048576 := by
  unfold mshotC at h
  split at h
  · rename_i q
    cases h
    refine Nat.div_le_of_le_mul ?_
    rw [Nat.mul_comm (mdark G S p)]
    exact Nat.mul_le_mul_left _ (Nat.min_le_right _ _)
  · cases h
theorem mwordC_le {G : xG} {S : xS} {p d j : Nat} (h : mwordC G S p d = some j) : j ≤ 1048576 := by
  unfold mwordC at h
  split at h
  · cases h
  · split at h
    · cases h; decide
    · cases h
set_option maxHeartbeats 4000000 in
set_option maxRecDepth 100000 in
theorem lk_B {G : xG} {S : xS} {A H : Nat → Nat} {L : Nat → Bool} {w : xw} {f : Bool → Nat} {t p risk now : Nat} {M : xM} {Q : Option Value → xM → Prop} (hW : wG G) (hw : wS G S) (wA_ : wA A) (hp : p < gP G) (ht : t < 500) (wn : now ≤ 500) (wr : risk ≤ 1048576) (wO1 : wO (w.1 (2 * p))) (wO2 : wO (w.1 (2 * p + 1))) (wlt : ∀ u, w.2.1 p = some u → u < t) (wln : w.2.1 p = none → w.2.2 p = none) (wlg : ∀ v, w.2.2 p = some v → v < 500) {c : Nat} {b : Bool} (ec : c = A (t * 4 + p)) (eb : decide (0 < H (t * 4 + p)) = b) (hG : CG G M) (hS : CS G S M (61 + 10 * (t % 16))) (hL : CLg A H L M) (hK : KWp w f p M) (hno : M.1 0 9 = nI now) (hri : M.1 0 11 = nI risk) (h : ∀ M2, FU (23 + 5 * p) M M2 → KWp (mlk G S A H t risk now p w) f p M2 → Q none M2) : WP shC mX9_lookAt 80 [some (.ref 0), some (.int (nI t)), some (.int (nI p)), some (.ref (61 + 10 * (t % 16))), some (.ref (23 + 5 * p)), some (.int (nI c)), some (.int (nI (c % 16))), some (.int (nI (c / 16 % 4))), some (.int (xb b)), none] [] M Q := by
  obtain ⟨b1, b2, b3, b4, b5, b6, b7, b8, b9, wmap, wlink, wk0, wk1, b10, b11, wword⟩ := id hW
  have cb : c ≤ 4096 := by have := wA_ (t * 4 + p); omega
  refine xi_aload_n dX9_lookAt_80 rfl ?_
  refine xi_getR dX9_lookAt_81 fgX9_219 (so (isSt_ring t)) rfl ?_
  refine xi_iload_n dX9_lookAt_84 rfl ?_
  have q1 := (hw).2.1 p (by omega)
  refine xe_iald (v := nI (sL S p)) p dX9_lookAt_85 (sa2 (isSt_ring t)) (by decide) rfl (by omega) (csL hS (by omega)) ?_
  refine xn_if_le (sL S p) 94 dX9_lookAt_86 (by decide) rfl (by omega) (fun h86 => ?_) (fun h86 => ?_)
  · skip
    refine xi_vret dX9_lookAt_94 rfl ?_
    have e0 : mlk G S A H t risk now p w = w := mlk_no (by rw [← ec]; omega)
    rw [e0] at h
    exact h M FU.rf hK
  · skip
    refine xi_iload dX9_lookAt_89 rfl ?_
    refine xn_if_ne (c % 16) 95 dX9_lookAt_91 (by decide) rfl (by omega) (fun h91 => ?_) (fun h91 => ?_)
    · skip
      refine xi_iload dX9_lookAt_95 rfl ?_
      refine xi_iconst (v := 2) dX9_lookAt_97 rfl ?_
      refine xn_icmp_ne (c % 16) 2 129 dX9_lookAt_98 (by decide) rfl rfl (by omega) (by omega) (fun h98 => ?_) (fun h98 => ?_)
      · skip
        refine xi_iload dX9_lookAt_129 rfl ?_
        refine xi_iconst (v := 3) dX9_lookAt_131 rfl ?_
        refine xn_icmp_ne (c % 16) 3 174 dX9_lookAt_132 (by decide) rfl rfl (by omega) (by omega) (fun h132 => ?_) (fun h132 => ?_)
        · skip
          refine xi_aload dX9_lookAt_174 rfl ?_
          refine xi_iload_n dX9_lookAt_176 rfl ?_
          refine xi_aload_n dX9_lookAt_177 rfl ?_
          refine xe_getI (v := nI risk) dX9_lookAt_178 fgX9_104 cc0 rfl hri ?_
          refine xi_aload_n dX9_lookAt_181 rfl ?_
          refine xe_getI (v := nI now) dX9_lookAt_182 fgX9_98 cc0 rfl hno ?_
          refine xi_callV [.int (nI t), .int (nI risk), .int (nI now)] [] dX9_lookAt_185 zX7_lookAtGap mlX9_272 (suo (isSu_p (p := p) (by omega))) rfl rfl rfl rfl rfl (Nat.le_of_ble_eq_true rfl) (Nat.le_of_ble_eq_true rfl) ⟨by decide, by decide⟩ ?_
          refine u_gap (isSu_p (p := p) (by omega)) (lt := w.2.1 p) (lg := w.2.2 p) wlt wlg wln ht hK.2.1 wO2 wr wn hK.2.2.2.2.1 hK.2.2.2.2.2 (fun M3 F3 O3 g4 g5 => ?_)
          show WP _ _ 188 _ [] _ _
          refine xi_vret dX9_lookAt_188 rfl ?_
          rw [mlk_if (by rw [← ec]; exact ⟨by omega, by omega⟩), ← ec] at h
          have em : mforO G S p c (H (t * 4 + p)) risk now (w.1 (2 * p)) = w.1 (2 * p) := by unfold mforO; rw [if_neg h98, if_neg h132]
          rw [em] at h
          exact h M3 (FU.fs F3) (hK.step FO.rf hK.1 F3 O3 g4 g5)
        · skip
          refine xi_aload_n dX9_lookAt_135 rfl ?_
          refine xi_iload_n dX9_lookAt_136 rfl ?_
          refine xi_iload dX9_lookAt_137 rfl ?_
          refine xi_iload dX9_lookAt_139 rfl ?_
          refine xi_callS [.int (nI c)] [.int (nI (c / 16 % 4)), .int (nI p), .ref (61 + 10 * (t % 16))] dX9_lookAt_141 zX0_wordOf mlX9_262 rfl rfl rfl (Nat.le_of_ble_eq_true rfl) (Nat.le_of_ble_eq_true rfl) ⟨by decide, by decide⟩ ?_
          refine k_word (c := c) (by omega) ?_
          show WP _ _ 144 _ [.int (nI (c / 64 % 16)), .int (nI (c / 16 % 4)), .int (nI p), .ref (61 + 10 * (t % 16))] _ _
          refine xi_callV [.int (nI p), .int (nI (c / 16 % 4)), .int (nI (c / 64 % 16))] [] dX9_lookAt_144 zX6_isWordNext mlX9_265 (so (isSt_ring t)) rfl rfl rfl rfl rfl (Nat.le_of_ble_eq_true rfl) (Nat.le_of_ble_eq_true rfl) ⟨by decide, by decide⟩ ?_
          refine s_wn hW hG (isSt_ring t) hS hw (p := p) (d := c / 16 % 4) (w := c / 64 % 16) (by omega) (by omega) (by omega) ?_
          show WP _ _ 147 _ [.int (xb (mwn G S p (c / 16 % 4) (c / 64 % 16)))] _ _
          refine xi_istore (lv' := [some (.ref 0), some (.int (nI t)), some (.int (nI p)), some (.ref (61 + 10 * (t % 16))), some (.ref (23 + 5 * p)), some (.int (nI c)), some (.int (nI (c % 16))), some (.int (nI (c / 16 % 4))), some (.int (xb b)), some (.int (xb (mwn G S p (c / 16 % 4) (c / 64 % 16))))]) dX9_lookAt_147 (by decide) rfl ?_
          refine xi_aload dX9_lookAt_149 rfl ?_
          refine xi_getR dX9_lookAt_151 fgX9_249 (suo (isSu_p (p := p) (by omega))) rfl ?_
          refine xi_aload_n dX9_lookAt_154 rfl ?_
          refine xi_iload_n dX9_lookAt_155 rfl ?_
          refine xi_iload dX9_lookAt_156 rfl ?_
          refine xi_callV [.int (nI p), .int (nI (c / 16 % 4))] [.ref ((23 + 5 * p) + 1)] dX9_lookAt_158 zX6_wordChance mlX9_269 (so (isSt_ring t)) rfl rfl rfl rfl rfl (Nat.le_of_ble_eq_true rfl) (Nat.le_of_ble_eq_true rfl) ⟨by decide, by decide⟩ ?_
          refine s_wordC hW hG (isSt_ring t) hS hw (p := p) (d := c / 16 % 4) (by omega) (by omega) ?_
          show WP _ _ 161 _ [.int (xo (mwordC G S p (c / 16 % 4))), .ref ((23 + 5 * p) + 1)] _ _
          refine xi_iload dX9_lookAt_161 rfl ?_
          refine xi_aload_n dX9_lookAt_163 rfl ?_
          refine xe_getI (v := nI risk) dX9_lookAt_164 fgX9_104 cc0 rfl hri ?_
          refine xi_aload_n dX9_lookAt_167 rfl ?_
          refine xe_getI (v := nI now) dX9_lookAt_168 fgX9_98 cc0 rfl hno ?_
          refine xi_callV [.int (xo (mwordC G S p (c / 16 % 4))), .int (xb (mwn G S p (c / 16 % 4) (c / 64 % 16))), .int (nI risk), .int (nI now)] [] dX9_lookAt_171 zX4_addTrial mlX9_256 (odo (su_o1 (isSu_p (p := p) (by omega)))) rfl rfl rfl rfl rfl (Nat.le_of_ble_eq_true rfl) (Nat.le_of_ble_eq_true rfl) ⟨by decide, by decide⟩ ?_
          refine o_add (su_o1 (isSu_p (p := p) (by omega))) hK.1 wO1 (oc := mwordC G S p (c / 16 % 4)) (fun j hj => mwordC_le hj) (b := mwn G S p (c / 16 % 4) (c / 64 % 16)) wr wn (fun M1 F1 O1 => ?_)
          have g1 : M1.1 0 9 = nI now := by rw [F1.1 0 (by omega)]; exact hno
          have g2 : M1.1 0 11 = nI risk := by rw [F1.1 0 (by omega)]; exact hri
          show WP _ _ 174 _ [] _ _
          refine xi_aload dX9_lookAt_174 rfl ?_
          refine xi_iload_n dX9_lookAt_176 rfl ?_
          refine xi_aload_n dX9_lookAt_177 rfl ?_
          refine xe_getI (v := nI risk) dX9_lookAt_178 fgX9_104 cc0 rfl g2 ?_
          refine xi_aload_n dX9_lookAt_181 rfl ?_
          refine xe_getI (v := nI now) dX9_lookAt_182 fgX9_98 cc0 rfl g1 ?_
          refine xi_callV [.int (nI t), .int (nI risk), .int (nI now)] [] dX9_lookAt_185 zX7_lookAtGap mlX9_272 (suo (isSu_p (p := p) (by omega))) rfl rfl rfl rfl rfl (Nat.le_of_ble_eq_true rfl) (Nat.le_of_ble_eq_true rfl) ⟨by decide, by decide⟩ ?_
          refine u_gap (isSu_p (p := p) (by omega)) (lt := w.2.1 p) (lg := w.2.2 p) wlt wlg wln ht (hK.2.1.sm (sC2.fo F1 (by omega))) wO2 wr wn (by rw [F1.1 _ (by omega)]; exact hK.2.2.2.2.1) (by rw [F1.1 _ (by omega)]; exact hK.2.2.2.2.2) (fun M3 F3 O3 g4 g5 => ?_)
          show WP _ _ 188 _ [] _ _
          refine xi_vret dX9_lookAt_188 rfl ?_
          rw [mlk_if (by rw [← ec]; exact ⟨by omega, by omega⟩), ← ec] at h
          have em : mforO G S p c (H (t * 4 + p)) risk now (w.1 (2 * p)) = maddO (w.1 (2 * p)) (mwordC G S p (c / 16 % 4)) (mwn G S p (c / 16 % 4) (c / 64 % 16)) risk now := by unfold mforO; rw [if_neg h98, if_pos h132]
          rw [em] at h
          exact h M3 ((FU.fo F1).tr (FU.fs F3)) (hK.step F1 O1 F3 O3 g4 g5)
      · skip
        refine xi_aload dX9_lookAt_101 rfl ?_
        refine xi_getR dX9_lookAt_103 fgX9_249 (suo (isSu_p (p := p) (by omega))) rfl ?_
        refine xi_aload_n dX9_lookAt_106 rfl ?_
        refine xi_iload_n dX9_lookAt_107 rfl ?_
        refine xi_iload dX9_lookAt_108 rfl ?_
        refine xi_callV [.int (nI p), .int (nI (c / 16 % 4))] [.ref ((23 + 5 * p) + 1)] dX9_lookAt_110 zX6_shotChance mlX9_253 (so (isSt_ring t)) rfl rfl rfl rfl rfl (Nat.le_of_ble_eq_true rfl) (Nat.le_of_ble_eq_true rfl) ⟨by decide, by decide⟩ ?_
        refine s_shotC hW hG (isSt_ring t) hS hw (p := p) (d := c / 16 % 4) (by omega) (by omega) ?_
        show WP _ _ 113 _ [.int (xo (mshotC G S p (c / 16 % 4))), .ref ((23 + 5 * p) + 1)] _ _
        refine xi_iload dX9_lookAt_113 rfl ?_
        refine xi_aload_n dX9_lookAt_115 rfl ?_
        refine xe_getI (v := nI risk) dX9_lookAt_116 fgX9_104 cc0 rfl hri ?_
        refine xi_aload_n dX9_lookAt_119 rfl ?_
        refine xe_getI (v := nI now) dX9_lookAt_120 fgX9_98 cc0 rfl hno ?_
        refine xi_callV [.int (xo (mshotC G S p (c / 16 % 4))), .int (xb b), .int (nI risk), .int (nI now)] [] dX9_lookAt_123 zX4_addTrial mlX9_256 (odo (su_o1 (isSu_p (p := p) (by omega)))) rfl rfl rfl rfl rfl (Nat.le_of_ble_eq_true rfl) (Nat.le_of_ble_eq_true rfl) ⟨by decide, by decide⟩ ?_
        refine o_add (su_o1 (isSu_p (p := p) (by omega))) hK.1 wO1 (oc := mshotC G S p (c / 16 % 4)) (fun j hj => mshotC_le hj) (b := b) wr wn (fun M1 F1 O1 => ?_)
        have g1 : M1.1 0 9 = nI now := by rw [F1.1 0 (by omega)]; exact hno
        have g2 : M1.1 0 11 = nI risk := by rw [F1.1 0 (by omega)]; exact hri
        show WP _ _ 126 _ [] _ _
        refine xi_goto 174 dX9_lookAt_126 (by decide) ?_
        refine xi_aload dX9_lookAt_174 rfl ?_
        refine xi_iload_n dX9_lookAt_176 rfl ?_
        refine xi_aload_n dX9_lookAt_177 rfl ?_
        refine xe_getI (v := nI risk) dX9_lookAt_178 fgX9_104 cc0 rfl g2 ?_
        refine xi_aload_n dX9_lookAt_181 rfl ?_
        refine xe_getI (v := nI now) dX9_lookAt_182 fgX9_98 cc0 rfl g1 ?_
        refine xi_callV [.int (nI t), .int (nI risk), .int (nI now)] [] dX9_lookAt_185 zX7_lookAtGap mlX9_272 (suo (isSu_p (p := p) (by omega))) rfl rfl rfl rfl rfl (Nat.le_of_ble_eq_true rfl) (Nat.le_of_ble_eq_true rfl) ⟨by decide, by decide⟩ ?_
        refine u_gap (isSu_p (p := p) (by omega)) (lt := w.2.1 p) (lg := w.2.2 p) wlt wlg wln ht (hK.2.1.sm (sC2.fo F1 (by omega))) wO2 wr wn (by rw [F1.1 _ (by omega)]; exact hK.2.2.2.2.1) (by rw [F1.1 _ (by omega)]; exact hK.2.2.2.2.2) (fun M3 F3 O3 g4 g5 => ?_)
        show WP _ _ 188 _ [] _ _
        refine xi_vret dX9_lookAt_188 rfl ?_
        rw [mlk_if (by rw [← ec]; exact ⟨by omega, by omega⟩), ← ec] at h
        have em : mforO G S p c (H (t * 4 + p)) risk now (w.1 (2 * p)) = maddO (w.1 (2 * p)) (mshotC G S p (c / 16 % 4)) (decide (0 < H (t * 4 + p))) risk now := by unfold mforO; rw [if_pos h98]
        rw [em] at h
        rw [eb] at h
        exact h M3 ((FU.fo F1).tr (FU.fs F3)) (hK.step F1 O1 F3 O3 g4 g5)
    · skip
      refine xi_vret dX9_lookAt_94 rfl ?_
      have e0 : mlk G S A H t risk now p w = w := mlk_no (by rw [← ec]; omega)
      rw [e0] at h
      exact h M FU.rf hK

set_option maxHeartbeats 4000000 in
set_option maxRecDepth 100000 in
theorem c_look {G : xG} {S : xS} {A H : Nat → Nat} {L : Nat → Bool} {w : xw} {f : Bool → Nat} {t p risk now : Nat} {M : xM} {Q : Option Value → xM → Prop} (hW : wG G) (hw : wS G S) (wA_ : wA A) (hp : p < gP G) (ht : t < 500) (wn : now ≤ 500) (wr : risk ≤ 1048576) (wO1 : wO (w.1 (2 * p))) (wO2 : wO (w.1 (2 * p + 1))) (wlt : ∀ u, w.2.1 p = some u → u < t) (wln : w.2.1 p = none → w.2.2 p = none) (wlg : ∀ v, w.2.2 p = some v → v < 500) (hG : CG G M) (hS : CS G S M (61 + 10 * (t % 16))) (hL : CLg A H L M) (hK : KWp w f p M) (hno : M.1 0 9 = nI now) (hri : M.1 0 11 = nI risk) (h : ∀ M2, FU (23 + 5 * p) M M2 → KWp (mlk G S A H t risk now p w) (fun b => f b + (if 0 < H (t * 4 + p) ∧ L (t * 4 + p) = b then 1 else 0)) p M2 → Q none M2) : WP shC mX9_lookAt 0 [some (.ref 0), some (.int (nI t)), some (.int (nI p)), none, none, none, none, none, none, none] [] M Q := by
  obtain ⟨b1, b2, b3, b4, b5, b6, b7, b8, b9, wmap, wlink, wk0, wk1, b10, b11, wword⟩ := id hW
  have hb := clHb hL (t * 4 + p)
  have cb : A (t * 4 + p) ≤ 4096 := by have := wA_ (t * 4 + p); omega
  refine xi_aload_n dX9_lookAt_0 rfl ?_
  refine xi_getR dX9_lookAt_1 fgX9_30 cc0 rfl ?_
  refine xi_iload_n dX9_lookAt_4 rfl ?_
  refine xi_callV [.int (nI t)] [] dX9_lookAt_5 zX5_stateAt mlX9_215 cc9 rfl rfl rfl rfl rfl (Nat.le_of_ble_eq_true rfl) (Nat.le_of_ble_eq_true rfl) ⟨by decide, by decide⟩ ?_
  refine g_at9 (t := t) (by omega) ?_
  show WP _ _ 8 _ [.ref (61 + 10 * (t % 16))] _ _
  refine xi_astore_n (lv' := [some (.ref 0), some (.int (nI t)), some (.int (nI p)), some (.ref (61 + 10 * (t % 16))), none, none, none, none, none, none]) dX9_lookAt_8 (by decide) rfl ?_
  refine xi_aload_n dX9_lookAt_9 rfl ?_
  refine xi_getR dX9_lookAt_10 fgX9_53 cc0 rfl ?_
  refine xi_iload_n dX9_lookAt_13 rfl ?_
  refine xe_aald5 (j := (23 + 5 * p)) p dX9_lookAt_14 cc20 (by decide) rfl (by omega) (if_pos (by omega)) ?_
  refine xi_astore (lv' := [some (.ref 0), some (.int (nI t)), some (.int (nI p)), some (.ref (61 + 10 * (t % 16))), some (.ref (23 + 5 * p)), none, none, none, none, none]) dX9_lookAt_15 (by decide) rfl ?_
  refine xi_aload_n dX9_lookAt_17 rfl ?_
  refine xi_getR dX9_lookAt_18 fgX9_40 cc0 rfl ?_
  refine xi_iload_n dX9_lookAt_21 rfl ?_
  refine xi_iload_n dX9_lookAt_22 rfl ?_
  refine xi_callV [.int (nI t), .int (nI p)] [] dX9_lookAt_23 zX3_codeOf mlX9_213 cc13 rfl rfl rfl rfl rfl (Nat.le_of_ble_eq_true rfl) (Nat.le_of_ble_eq_true rfl) ⟨by decide, by decide⟩ ?_
  refine g_code hL (t := t) (p := p) (by omega) (by omega) ?_
  show WP _ _ 26 _ [.int (nI (A (t * 4 + p)))] _ _
  refine xi_istore (lv' := [some (.ref 0), some (.int (nI t)), some (.int (nI p)), some (.ref (61 + 10 * (t % 16))), some (.ref (23 + 5 * p)), some (.int (nI (A (t * 4 + p)))), none, none, none, none]) dX9_lookAt_26 (by decide) rfl ?_
  refine xi_iload dX9_lookAt_28 rfl ?_
  refine xi_callS [.int (nI (A (t * 4 + p)))] [] dX9_lookAt_30 zX0_kindOf mlX9_233 rfl rfl rfl (Nat.le_of_ble_eq_true rfl) (Nat.le_of_ble_eq_true rfl) ⟨by decide, by decide⟩ ?_
  refine k_kind (c := A (t * 4 + p)) (by omega) ?_
  show WP _ _ 33 _ [.int (nI ((A (t * 4 + p)) % 16))] _ _
  refine xi_istore (lv' := [some (.ref 0), some (.int (nI t)), some (.int (nI p)), some (.ref (61 + 10 * (t % 16))), some (.ref (23 + 5 * p)), some (.int (nI (A (t * 4 + p)))), some (.int (nI ((A (t * 4 + p)) % 16))), none, none, none]) dX9_lookAt_33 (by decide) rfl ?_
  refine xi_iload dX9_lookAt_35 rfl ?_
  refine xi_callS [.int (nI (A (t * 4 + p)))] [] dX9_lookAt_37 zX0_directionOf mlX9_236 rfl rfl rfl (Nat.le_of_ble_eq_true rfl) (Nat.le_of_ble_eq_true rfl) ⟨by decide, by decide⟩ ?_
  refine k_dir (c := A (t * 4 + p)) (by omega) ?_
  show WP _ _ 40 _ [.int (nI ((A (t * 4 + p)) / 16 % 4))] _ _
  refine xi_istore (lv' := [some (.ref 0), some (.int (nI t)), some (.int (nI p)), some (.ref (61 + 10 * (t % 16))), some (.ref (23 + 5 * p)), some (.int (nI (A (t * 4 + p)))), some (.int (nI ((A (t * 4 + p)) % 16))), some (.int (nI ((A (t * 4 + p)) / 16 % 4))), none, none]) dX9_lookAt_40 (by decide) rfl ?_
  refine xi_aload_n dX9_lookAt_42 rfl ?_
  refine xi_getR dX9_lookAt_43 fgX9_40 cc0 rfl ?_
  refine xi_iload_n dX9_lookAt_46 rfl ?_
  refine xi_iload_n dX9_lookAt_47 rfl ?_
  refine xi_callV [.int (nI t), .int (nI p)] [] dX9_lookAt_48 zX3_hitOf mlX9_239 cc13 rfl rfl rfl rfl rfl (Nat.le_of_ble_eq_true rfl) (Nat.le_of_ble_eq_true rfl) ⟨by decide, by decide⟩ ?_
  refine g_hit hL (t := t) (p := p) (by omega) (by omega) ?_
  show WP _ _ 51 _ [.int (nI (H (t * 4 + p)))] _ _
  refine xn_if_le (H (t * 4 + p)) 58 dX9_lookAt_51 (by decide) rfl (by omega) (fun h51 => ?_) (fun h51 => ?_)
  · skip
    refine xi_iconst (v := 0) dX9_lookAt_58 rfl ?_
    refine xi_istore (lv' := [some (.ref 0), some (.int (nI t)), some (.int (nI p)), some (.ref (61 + 10 * (t % 16))), some (.ref (23 + 5 * p)), some (.int (nI (A (t * 4 + p)))), some (.int (nI ((A (t * 4 + p)) % 16))), some (.int (nI ((A (t * 4 + p)) / 16 % 4))), some (.int 0), none]) dX9_lookAt_59 (by decide) rfl ?_
    refine xi_iload dX9_lookAt_61 rfl ?_
    refine xn_if_eq 0 80 dX9_lookAt_63 (by decide) rfl (by omega) (fun h63 => ?_) (fun h63 => ?_)
    · skip
      have ef : (fun b => f b + (if 0 < H (t * 4 + p) ∧ L (t * 4 + p) = b then 1 else 0)) = f := by funext b; rw [if_neg (by omega)]; rfl
      rw [ef] at h
      exact lk_B hW hw wA_ hp ht wn wr wO1 wO2 wlt wln wlg (b := false) rfl (by simp; omega) hG hS hL hK hno hri h
    · omega
  · skip
    refine xi_iconst (v := 1) dX9_lookAt_54 rfl ?_
    refine xi_goto 59 dX9_lookAt_55 (by decide) ?_
    refine xi_istore (lv' := [some (.ref 0), some (.int (nI t)), some (.int (nI p)), some (.ref (61 + 10 * (t % 16))), some (.ref (23 + 5 * p)), some (.int (nI (A (t * 4 + p)))), some (.int (nI ((A (t * 4 + p)) % 16))), some (.int (nI ((A (t * 4 + p)) / 16 % 4))), some (.int 1), none]) dX9_lookAt_59 (by decide) rfl ?_
    refine xi_iload dX9_lookAt_61 rfl ?_
    refine xn_if_eq 1 80 dX9_lookAt_63 (by decide) rfl (by omega) (fun h63 => ?_) (fun h63 => ?_)
    · omega
    · skip
      refine xi_aload dX9_lookAt_66 rfl ?_
      refine xi_aload_n dX9_lookAt_68 rfl ?_
      refine xi_getR dX9_lookAt_69 fgX9_40 cc0 rfl ?_
      refine xi_iload_n dX9_lookAt_72 rfl ?_
      refine xi_iload_n dX9_lookAt_73 rfl ?_
      refine xi_callV [.int (nI t), .int (nI p)] [.ref (23 + 5 * p)] dX9_lookAt_74 zX3_isLate mlX9_242 cc13 rfl rfl rfl rfl rfl (Nat.le_of_ble_eq_true rfl) (Nat.le_of_ble_eq_true rfl) ⟨by decide, by decide⟩ ?_
      refine g_late hL (t := t) (p := p) (by omega) (by omega) ?_
      show WP _ _ 77 _ [.int (xb (L (t * 4 + p))), .ref (23 + 5 * p)] _ _
      refine xi_callV [.int (xb (L (t * 4 + p)))] [] dX9_lookAt_77 zX7_countHit mlX9_245 (suo (isSu_p (p := p) (by omega))) rfl rfl rfl rfl rfl (Nat.le_of_ble_eq_true rfl) (Nat.le_of_ble_eq_true rfl) ⟨by decide, by decide⟩ ?_
      refine u_count (isSu_p (p := p) (by omega)) (fun hl => ?_) (fun hl => ?_)
      · show WP _ _ 80 _ [] _ _
        generalize eM1 : xf M (23 + 5 * p) 3 (M.1 (23 + 5 * p) 3 + 1) = M1
        have F1 : FU (23 + 5 * p) M M1 := by rw [← eM1]; exact FU.xf
        have K1 : KWp w (fun b => f b + (if 0 < H (t * 4 + p) ∧ L (t * 4 + p) = b then 1 else 0)) p M1 := by
          rw [← eM1]
          refine ⟨CO.xf hK.1 (by omega), CO.xf hK.2.1 (by omega), ?_, ?_, (xf_k (by decide)).trans hK.2.2.2.2.1, (xf_k (by decide)).trans hK.2.2.2.2.2⟩
          · rw [xf_k (by decide)]; show _ = nI (f false + (if _ then 1 else 0)); rw [if_neg (by rw [hl]; simp)]; exact hK.2.2.1
          · rw [xf_s, hK.2.2.2.1]; show _ = nI (f true + (if _ then 1 else 0)); rw [if_pos ⟨by omega, hl⟩]; exact nI_1 _
        exact lk_B hW hw wA_ hp ht wn wr wO1 wO2 wlt wln wlg (b := true) rfl (by simp; omega) (hG.sm (fun a q1 q2 => F1 a (by omega))) (hS.sm (fun a q1 q2 => F1 a (by omega))) (hL.sm (fun a q1 q2 => F1 a (by omega))) K1 (by rw [(F1 0 (by omega)).1]; exact hno) (by rw [(F1 0 (by omega)).1]; exact hri) (fun M2 F2 z => h M2 (F1.tr F2) z)
      · show WP _ _ 80 _ [] _ _
        generalize eM1 : xf M (23 + 5 * p) 2 (M.1 (23 + 5 * p) 2 + 1) = M1
        have F1 : FU (23 + 5 * p) M M1 := by rw [← eM1]; exact FU.xf
        have K1 : KWp w (fun b => f b + (if 0 < H (t * 4 + p) ∧ L (t * 4 + p) = b then 1 else 0)) p M1 := by
          rw [← eM1]
          refine ⟨CO.xf hK.1 (by omega), CO.xf hK.2.1 (by omega), ?_, ?_, (xf_k (by decide)).trans hK.2.2.2.2.1, (xf_k (by decide)).trans hK.2.2.2.2.2⟩
          · rw [xf_s, hK.2.2.1]; show _ = nI (f false + (if _ then 1 else 0)); rw [if_pos ⟨by omega, hl⟩]; exact nI_1 _
          · rw [xf_k (by decide)]; show _ = nI (f true + (if _ then 1 else 0)); rw [if_neg (by rw [hl]; simp)]; exact hK.2.2.2.1
        exact lk_B hW hw wA_ hp ht wn wr wO1 wO2 wlt wln wlg (b := true) rfl (by simp; omega) (hG.sm (fun a q1 q2 => F1 a (by omega))) (hS.sm (fun a q1 q2 => F1 a (by omega))) (hL.sm (fun a q1 q2 => F1 a (by omega))) K1 (by rw [(F1 0 (by omega)).1]; exact hno) (by rw [(F1 0 (by omega)).1]; exact hri) (fun M2 F2 z => h M2 (F1.tr F2) z)

