def st_step (X : xX) : Int32 × xX := match X with
  | (G, S0, now, late, risk, A, L, sq, nl, rf, hr, lg, w, tp) => if now = 500 then (-4, (G, S0, now, late, risk, A, L, sq, nl, rf, hr, lg, w, tp)) else (nI (now + 1), (G, S0, now + 1, late, risk, A, L, sq, nl, rf, hr, lg, (if late ≤ now then mlkL G (Zf G A S0 (now - late)) A (Hx G A S0 (now + 1)) (now - late) risk (now + 1) 0 (gP G) w else w), tp))
/-- the watch while the players are looked at in turn -/
def wwi (w : xw) (t p : Nat) : Prop := (∀ k, wO (w.1 k)) ∧ (∀ q u, w.2.1 q = some u → u ≤ t) ∧ (∀ q u, p ≤ q → w.2.1 q = some u → u < t) ∧ (∀ q, w.2.1 q = none → w.2.2 q = none) ∧ ∀ q v, w.2.2 q = some v → v < 500
theorem ww.wwi {w : xw} {t : Nat} (h : ww w t) : wwi w t 0 := ⟨h.1, fun q u z => Nat.le_of_lt (h.2.1 q u z), fun q u _ z => h.2.1 q u z, h.2.2.1, h.2.2.2⟩
theorem wwi.ww {w : xw} {t p : Nat} (h : wwi w t p) : ww w (t + 1) := ⟨h.1, fun q u z => Nat.lt_succ_of_le (h.2.1 q u z), h.2.2.2.1, h.2.2.2.2⟩
theorem wwi.look {G : xG} {S : xS} {A H : Nat → Nat} {t risk now p : Nat} {w : xw} (h : wwi w t p) (ht : t < 500) (hn : now ≤ 500) : wwi (mlk G S A H t risk now p w) t (p + 1) := by
  by_cases q : 0 < sL S p ∧ ¬ A (t * 4 + p) % 16 = 0
  · rw [mlk_if q]
    refine ⟨fun k => ?_, fun r u z => ?_, fun r u hr z => ?_, fun r z => ?_, fun r v z => ?_⟩
    · show wO (va_up (va_up w.1 (2 * p) _) (2 * p + 1) _ k)
      by_cases e1 : k = 2 * p + 1
      · rw [e1, up_s]; exact wO_gap (h.1 _) hn
      · rw [up_n e1]
        by_cases e2 : k = 2 * p
        · rw [e2, up_s]; exact wO_for (h.1 _) hn
        · rw [up_n e2]; exact h.1 k
    · change va_up w.2.1 p (some t) r = some u at z
      by_cases e : r = p
      · rw [e, up_s] at z; cases z; exact Nat.le_refl _
      · rw [up_n e] at z; exact h.2.1 r u z
    · change va_up w.2.1 p (some t) r = some u at z
      rw [up_n (by omega)] at z
      exact h.2.2.1 r u (by omega) z
    · change va_up w.2.1 p (some t) r = none at z
      show va_up w.2.2 p (mgapG (w.2.1 p) t) r = none
      by_cases e : r = p
      · rw [e, up_s] at z; cases z
      · rw [up_n e] at z ⊢; exact h.2.2.2.1 r z
    · change va_up w.2.2 p (mgapG (w.2.1 p) t) r = some v at z
      by_cases e : r = p
      · rw [e, up_s] at z
        unfold mgapG at z
        split at z
        · cases z
        · cases z; omega
      · rw [up_n e] at z; exact h.2.2.2.2 r v z
  · rw [mlk_no q]
    exact ⟨h.1, h.2.1, fun r u hr z => h.2.2.1 r u (by omega) z, h.2.2.2.1, h.2.2.2.2⟩
theorem wwi.lookL {G : xG} {S : xS} {A H : Nat → Nat} {t risk now : Nat} (ht : t < 500) (hn : now ≤ 500) : ∀ (f p : Nat) (w : xw), wwi w t p → wwi (mlkL G S A H t risk now p f w) t (p + f)
  | 0, p, w, h => h
  | f + 1, p, w, h => by
    rw [mlkL, show p + (f + 1) = p + 1 + f by omega]
    exact wwi.lookL ht hn f (p + 1) _ (h.look ht hn)
/-- who isn't looked at keeps all -/
theorem KWp.other {G : xG} {S : xS} {A H : Nat → Nat} {t risk now p q : Nat} {w : xw} {f : Bool → Nat} {M M2 : xM} (h : KWp w f q M) (F : FU (23 + 5 * p) M M2) (e : ¬ q = p) : KWp (mlk G S A H t risk now p w) f q M2 := by
  have h2 : KWp w f q M2 := h.sm (fun a q1 q2 => F a (by omega))
  by_cases z : 0 < sL S p ∧ ¬ A (t * 4 + p) % 16 = 0
  · rw [mlk_if z]
    obtain ⟨a, b, c, d, e1, e2⟩ := h2
    refine ⟨?_, ?_, c, d, ?_, ?_⟩
    · show CO (va_up (va_up w.1 (2 * p) _) (2 * p + 1) _ (2 * q)) M2 _
      rw [up_n (by omega), up_n (by omega)]; exact a
    · show CO (va_up (va_up w.1 (2 * p) _) (2 * p + 1) _ (2 * q + 1)) M2 _
      rw [up_n (by omega), up_n (by omega)]; exact b
    · show _ = xo (va_up w.2.1 p _ q)
      rw [up_n e]; exact e1
    · show _ = xo (va_up w.2.2 p _ q)
      rw [up_n e]; exact e2
  · rw [mlk_no z]; exact h2
theorem KWp.cong {w : xw} {f g : Bool → Nat} {p : Nat} {M : xM} (h : KWp w f p M) (e : ∀ b, f b = g b) : KWp w g p M := by
  have : f = g := funext e
  rw [← this]
  exact h
theorem settle_neg {now late : Nat} (hn : now ≤ 500) (hl : late ≤ 8) (h : now < late) : nI (now + 1) - nI late - 1 < 0 := by
  have e : nI (now + 1) - nI late - 1 = xz ((now : Int) - late) := by
    rw [xz_nsub, show (1 : Int32) = xz 1 from rfl]
    unfold xz
    rw [← Int32.ofInt_sub]
    congr 1
    omega
  rw [e, Int32.lt_iff_toInt_lt, xz_toInt (by omega) (by omega)]
  show _ < (0 : Int)
  omega
theorem Hx_lt {G : xG} {A : Nat → Nat} {S : xS} {now i : Nat} (h : i < 4 * now) : Hx G A S now i = Hx G A S (now + 1) i := by
  unfold Hx
  rw [if_pos h, if_pos (by omega)]
theorem fair_step {G : xG} {A : Nat → Nat} {S : xS} {L : Nat → Bool} {now t q : Nat} {b : Bool} (hq : q < 4) (ht : t ≤ now) : mfair (Hx G A S now) L q b t + (if 0 < Hx G A S (now + 1) (t * 4 + q) ∧ L (t * 4 + q) = b then 1 else 0) = mfair (Hx G A S (now + 1)) L q b (t + 1) := by
  rw [mfair, Nat.mul_comm 4 t, mfair_A hq t (fun i hi => ⟨Hx_lt (by omega), rfl⟩)]
set_option maxHeartbeats 4000000 in
set_option maxRecDepth 100000 in
theorem sl_step {G : xG} {S : xS} {A H : Nat → Nat} {L : Nat → Bool} {t risk now : Nat} {Q : Option Value → xM → Prop} (hW : wG G) (hwS : wS G S) (wA_ : wA A) (ht : t < 500) (wn : now ≤ 500) (wr : risk ≤ 1048576) : ∀ (fu p : Nat) (w : xw) (f : Nat → Bool → Nat) (M : xM), p + fu = gP G → CG G M → CS G S M (61 + 10 * (t % 16)) → CLg A H L M → KW w f M → M.1 0 9 = nI now → M.1 0 11 = nI risk → wwi w t p → (∀ M2, sC2 0 22 M M2 → sC2 43 240 M M2 → KW (mlkL G S A H t risk now p fu w) (fun q b => if p ≤ q ∧ q < gP G then f q b + (if 0 < H (t * 4 + q) ∧ L (t * 4 + q) = b then 1 else 0) else f q b) M2 → Q (some (.int (nI now))) M2) → WP shC mX9_step 58 [some (.ref 0), some (.int (nI t)), some (.int (nI p))] [] M Q := by
  obtain ⟨b1, b2, b3, b4, b5, b6, b7, b8, b9, wmap, wlink, wk0, wk1, b10, b11, wword⟩ := id hW
  intro fu
  induction fu with
  | zero =>
    intro p w f M hf hG hS hL hK hno hri hw4 h
    refine xi_iload_n dX9_step_58 rfl ?_
    refine xi_aload_n dX9_step_59 rfl ?_
    refine xi_getR dX9_step_60 fgX9_10 cc0 rfl ?_
    refine xe_getI (v := nI (gP G)) dX9_step_63 fgX9_226 cc1 rfl (cg_P hG) ?_
    refine xn_icmp_ge p (gP G) 85 dX9_step_66 (by decide) rfl rfl (by omega) (by omega) (fun h66 => ?_) (fun z => absurd z (by omega))
    refine xi_aload_n dX9_step_85 rfl ?_
    refine xe_getI (v := nI now) dX9_step_86 fgX9_98 cc0 rfl hno ?_
    refine xi_iret (v := nI now) dX9_step_89 rfl ?_
    exact h M sC2.rf sC2.rf (fun q hq => (hK q hq).cong (fun b => (if_neg (by omega)).symm))
  | succ fu ih =>
    intro p w f M hf hG hS hL hK hno hri hw4 h
    refine xi_iload_n dX9_step_58 rfl ?_
    refine xi_aload_n dX9_step_59 rfl ?_
    refine xi_getR dX9_step_60 fgX9_10 cc0 rfl ?_
    refine xe_getI (v := nI (gP G)) dX9_step_63 fgX9_226 cc1 rfl (cg_P hG) ?_
    refine xn_icmp_ge p (gP G) 85 dX9_step_66 (by decide) rfl rfl (by omega) (by omega) (fun z => absurd z (by omega)) (fun h66 => ?_)
    refine xi_iload_n dX9_step_69 rfl ?_
    refine xn_if_lt t 85 dX9_step_70 (by decide) rfl (by omega) ?_
    refine xi_aload_n dX9_step_73 rfl ?_
    refine xi_iload_n dX9_step_74 rfl ?_
    refine xi_iload_n dX9_step_75 rfl ?_
    refine xi_callV [.int (nI t), .int (nI p)] [] dX9_step_76 zX9_lookAt mlX9_229 cc0 rfl rfl rfl rfl rfl (Nat.le_of_ble_eq_true rfl) (Nat.le_of_ble_eq_true rfl) ⟨by decide, by decide⟩ ?_
    refine c_look (f := f p) hW hwS wA_ (by omega) ht wn wr (hw4.1 _) (hw4.1 _) (fun u z => hw4.2.2.1 p u (Nat.le_refl _) z) (hw4.2.2.2.1 p) (fun v z => hw4.2.2.2.2 p v z) hG hS hL (hK p (by omega)) hno hri (fun M1 F1 K1 => ?_)
    show WP _ _ 79 _ [] _ _
    refine xi_iinc (v := nI (p + 1)) (lv' := [some (.ref 0), some (.int (nI t)), some (.int (nI (p + 1)))]) dX9_step_79 rfl (xinc p) (by decide) rfl ?_
    refine xi_goto 58 dX9_step_82 (by decide) ?_
    refine ih (p + 1) (mlk G S A H t risk now p w) (fun q b => if q = p then f q b + (if 0 < H (t * 4 + q) ∧ L (t * 4 + q) = b then 1 else 0) else f q b) M1 (by omega) (hG.sm (fun a q1 q2 => F1 a (by omega))) (hS.sm (fun a q1 q2 => F1 a (by omega))) (hL.sm (fun a q1 q2 => F1 a (by omega))) (fun q hq => ?_) (by rw [(F1 0 (by omega)).1]; exact hno) (by rw [(F1 0 (by omega)).1]; exact hri) (hw4.look ht wn) (fun M2 f1 f2 z => ?_)
    · by_cases e : q = p
      · subst e
        exact K1.cong (fun b => (if_pos rfl).symm)
      · exact ((hK q hq).other (G := G) (S := S) (A := A) (H := H) (t := t) (risk := risk) (now := now) F1 e).cong (fun b => (if_neg e).symm)
    · have f3 : sC2 0 22 M M1 := fun a q1 q2 => F1 a (by omega)
      have f4 : sC2 43 240 M M1 := fun a q1 q2 => F1 a (by omega)
      refine h M2 (f3.tr f1) (f4.tr f2) (fun q hq => (z q hq).cong (fun b => ?_))
      dsimp only
      by_cases e : q = p
      · subst e
        rw [if_neg (c := q + 1 ≤ q ∧ q < gP G) (by omega), if_pos (c := q = q) rfl, if_pos (c := q ≤ q ∧ q < gP G) (by omega)]
      · by_cases e2 : p ≤ q ∧ q < gP G
        · rw [if_pos (c := p + 1 ≤ q ∧ q < gP G) (by omega), if_neg e, if_pos e2]
        · rw [if_neg (c := p + 1 ≤ q ∧ q < gP G) (by omega), if_neg e, if_neg e2]

set_option maxHeartbeats 4000000 in
set_option maxRecDepth 100000 in
theorem cl_stepA {G : xG} {S0 : xS} {now late risk : Nat} {A : Nat → Nat} {L : Nat → Bool} {sq : Nat → Nat} {nl : Nat} {rf hr : Int32} {lg : xE2} {w : xw} {tp : Nat → xT} {M : xM} {Q : Option Value → xM → Prop} (hX : wX (G, S0, now, late, risk, A, L, sq, nl, rf, hr, lg, w, tp)) (hC : RepC (G, S0, now, late, risk, A, L, sq, nl, rf, hr, lg, w, tp) M) (hl : now < 500) (hln : late ≤ now) (h : ∀ M2, RepC (st_step (G, S0, now, late, risk, A, L, sq, nl, rf, hr, lg, w, tp)).2 M2 → Q (some (.int (st_step (G, S0, now, late, risk, A, L, sq, nl, rf, hr, lg, w, tp)).1)) M2) : WP shC mX9_step 0 [some (.ref 0), none, none] [] M Q := by
  obtain ⟨hW, hw0, wn, wl, wr, wA_, wsq, wnl, wmo, wtk, wwt, wtp, wO0, wB0⟩ := id hX
  obtain ⟨b1, b2, b3, b4, b5, b6, b7, b8, b9, wmap, wlink, wk0, wk1, b10, b11, wword⟩ := id hW
  have nb : nl ≤ 2000 := by rw [wnl]; exact mcnt_le 2000
  obtain ⟨hG, hKF, hKR, hL, hKE, hKS, hKW, hKT, hKM⟩ := id hC
  obtain ⟨hno, hla, hri, hnl, hrf, hhr⟩ := id hKM
  have hSn : CS G (Zf G A S0 now) M (61 + 10 * (now % 16)) := hKR.1 now (by omega) (by omega)
  have hwn : wS G (Zf G A S0 now) := wS_Zf hW hw0 now
  refine xi_aload_n dX9_step_0 rfl ?_
  refine xe_getI (v := nI now) dX9_step_1 fgX9_98 cc0 rfl hno ?_
  refine xi_sipush (v := 500) dX9_step_4 (by decide) ?_
  refine xn_icmp_lt now 500 13 dX9_step_7 (by decide) rfl rfl (by omega) (by omega) (fun h7 => ?_) (fun z => absurd z (by omega))
  refine xi_aload_n dX9_step_13 rfl ?_
  refine xi_getR dX9_step_14 fgX9_30 cc0 rfl ?_
  refine xi_aload_n dX9_step_17 rfl ?_
  refine xe_getI (v := nI now) dX9_step_18 fgX9_98 cc0 rfl hno ?_
  refine xi_aload_n dX9_step_21 rfl ?_
  refine xe_getI (v := nI now) dX9_step_22 fgX9_98 cc0 rfl hno ?_
  refine xi_iconst (v := 1) dX9_step_25 rfl ?_
  refine xat 26 rfl ?_
  refine xe_iadd dX9_step_26 (v := nI (now + 1)) (nI_add now 1) ?_
  refine xi_aload_n dX9_step_27 rfl ?_
  refine xi_getR dX9_step_28 fgX9_40 cc0 rfl ?_
  refine xi_callV [.int (nI now), .int (nI (now + 1)), .ref 13] [] dX9_step_31 zX5_work mlX9_193 cc9 rfl rfl rfl rfl rfl (Nat.le_of_ble_eq_true rfl) (Nat.le_of_ble_eq_true rfl) ⟨by decide, by decide⟩ ?_
  refine s_work9 (Z := Zf G A S0) hW (lo := now - 15) (fr := now) (to := now + 1) (by omega) (by omega) (by omega) hG (by rw [Nat.max_self]; exact hKR.1) hwn hL (fun u _ _ => rfl) (fun M1 F1 R1 l1 w1 => ?_)
  rw [show max (now - 15) (now + 1 - 15) = now + 1 - 15 by omega] at R1
  rw [show now + 1 - now = 1 by omega, Hx_step hW] at l1
  show WP _ _ 34 _ [] _ _
  refine xi_aload_n dX9_step_34 rfl ?_
  refine xi_dup dX9_step_35 rfl ?_
  refine xe_getI (v := nI now) dX9_step_36 fgX9_98 cc0 rfl (by rw [F1.1]; exact hno) ?_
  refine xi_iconst (v := 1) dX9_step_39 rfl ?_
  refine xe_iadd dX9_step_40 (v := nI (now + 1)) (nI_add now 1) ?_
  refine xi_put dX9_step_41 fpX9_98 cc0 rfl ?_
  generalize eM2 : (xf M1 0 9 (nI (now + 1))) = M2
  have fr : ∀ lo hi, 0 < lo → (220 < lo ∨ hi < 62) → (hi < 15 ∨ 15 < lo) → sC2 lo hi M M2 := fun lo hi q0 q1 q2 => by rw [← eM2]; exact (sC2.fk F1 (by omega) q2).tr (sC2.xf (by omega))
  have g2 : CG G M2 := hG.sm (fr _ _ (by omega) (by omega) (by omega))
  have fx : ∀ lo hi, 0 < lo → sC2 lo hi M1 M2 := fun lo hi q0 => by rw [← eM2]; exact sC2.xf (by omega)
  have R2 : CR G (Zf G A S0) M2 (now + 1 - 15) (now + 1) := fun u q1 q2 => (R1 u q1 q2).sm (fx _ _ (by omega))
  have l2 := l1.sm (fx 13 16 (by omega))
  have k9 : KM (now + 1) late risk nl rf hr M2 := by rw [← eM2]; exact ⟨xf_s, (xf_k (by decide)).trans (by rw [F1.1]; exact hla), (xf_k (by decide)).trans (by rw [F1.1]; exact hri), (xf_k (by decide)).trans (by rw [F1.1]; exact hnl), (xf_k (by decide)).trans (by rw [F1.1]; exact hrf), (xf_k (by decide)).trans (by rw [F1.1]; exact hhr)⟩
  have k7 := hKW.sm (fr 23 42 (by omega) (by omega) (by omega))
  refine xi_aload_n dX9_step_44 rfl ?_
  refine xe_getI (v := nI (now + 1)) dX9_step_45 fgX9_98 cc0 rfl k9.1 ?_
  refine xi_aload_n dX9_step_48 rfl ?_
  refine xe_getI (v := nI late) dX9_step_49 fgX9_101 cc0 rfl k9.2.1 ?_
  refine xe_isub dX9_step_52 (v := nI (now + 1 - late)) (pk_sub (by omega)) ?_
  refine xat 53 rfl ?_
  refine xi_iconst (v := 1) dX9_step_53 rfl ?_
  refine xe_isub dX9_step_54 (v := nI (now - late)) ((pk_sub (a := now + 1 - late) (b := 1) (by omega)).trans (congrArg nI (by omega))) ?_
  refine xi_istore_n (lv' := [some (.ref 0), some (.int (nI (now - late))), none]) dX9_step_55 (by decide) rfl ?_
  refine xi_iconst (v := 0) dX9_step_56 rfl ?_
  refine xi_istore_n (lv' := [some (.ref 0), some (.int (nI (now - late))), some (.int 0)]) dX9_step_57 (by decide) rfl ?_
  have e9 : st_step (G, S0, now, late, risk, A, L, sq, nl, rf, hr, lg, w, tp) = (nI (now + 1), (G, S0, now + 1, late, risk, A, L, sq, nl, rf, hr, lg, mlkL G (Zf G A S0 (now - late)) A (Hx G A S0 (now + 1)) (now - late) risk (now + 1) 0 (gP G) w, tp)) := by show (if now = 500 then _ else (nI (now + 1), (G, S0, now + 1, late, risk, A, L, sq, nl, rf, hr, lg, (if late ≤ now then mlkL G (Zf G A S0 (now - late)) A (Hx G A S0 (now + 1)) (now - late) risk (now + 1) 0 (gP G) w else w), tp))) = _; rw [if_neg (by omega), if_pos hln]
  rw [e9] at h
  have hSt : CS G (Zf G A S0 (now - late)) M2 (61 + 10 * ((now - late) % 16)) := R2 (now - late) (by omega) (by omega)
  refine sl_step (t := now - late) hW (wS_Zf hW hw0 _) wA_ (by omega) (by omega) wr (gP G) 0 w _ M2 (by omega) g2 hSt l2 k7 k9.1 k9.2.2.1 wwt.wwi (fun M3 f1 f2 z => ?_)
  refine h M3 (RepC_mk (g2.sm (f1.sub (by omega) (by omega))) (hKF.sm ((fr _ _ (by omega) (by omega) (by omega)).tr (f2.sub (by omega) (by omega)))) ⟨fun u q1 q2 => (R2 u q1 q2).sm (f2.sub (by omega) (by omega)), fun z => by omega⟩ (l2.sm (f1.sub (by omega) (by omega))) (hKE.sm ((fr _ _ (by omega) (by omega) (by omega)).tr (f1.sub (by omega) (by omega)))) (hKS.sm ((fr _ _ (by omega) (by omega) (by omega)).tr (f1.sub (by omega) (by omega)))) (fun q hq => (z q hq).cong (fun b => ?_)) (hKT.sm ((fr _ _ (by omega) (by omega) (by omega)).tr (f2.sub (by omega) (by omega)))) (k9.sm (f1.sub (by omega) (by omega))))
  dsimp only
  rw [show now + 1 - late = now - late + 1 by omega]
  by_cases e2 : 0 ≤ q ∧ q < gP G
  · rw [if_pos e2]; exact fair_step hq (by omega)
  · rw [if_neg e2, ← fair_step hq (by omega), if_neg (c := 0 < Hx G A S0 (now + 1) ((now - late) * 4 + q) ∧ L ((now - late) * 4 + q) = b) (by rw [Hx_P hW (by omega)]; omega)]; rfl

set_option maxHeartbeats 4000000 in
set_option maxRecDepth 100000 in
theorem cl_stepB {G : xG} {S0 : xS} {now late risk : Nat} {A : Nat → Nat} {L : Nat → Bool} {sq : Nat → Nat} {nl : Nat} {rf hr : Int32} {lg : xE2} {w : xw} {tp : Nat → xT} {M : xM} {Q : Option Value → xM → Prop} (hX : wX (G, S0, now, late, risk, A, L, sq, nl, rf, hr, lg, w, tp)) (hC : RepC (G, S0, now, late, risk, A, L, sq, nl, rf, hr, lg, w, tp) M) (hl : now < 500) (hln : now < late) (h : ∀ M2, RepC (st_step (G, S0, now, late, risk, A, L, sq, nl, rf, hr, lg, w, tp)).2 M2 → Q (some (.int (st_step (G, S0, now, late, risk, A, L, sq, nl, rf, hr, lg, w, tp)).1)) M2) : WP shC mX9_step 0 [some (.ref 0), none, none] [] M Q := by
  obtain ⟨hW, hw0, wn, wl, wr, wA_, wsq, wnl, wmo, wtk, wwt, wtp, wO0, wB0⟩ := id hX
  obtain ⟨b1, b2, b3, b4, b5, b6, b7, b8, b9, wmap, wlink, wk0, wk1, b10, b11, wword⟩ := id hW
  have nb : nl ≤ 2000 := by rw [wnl]; exact mcnt_le 2000
  obtain ⟨hG, hKF, hKR, hL, hKE, hKS, hKW, hKT, hKM⟩ := id hC
  obtain ⟨hno, hla, hri, hnl, hrf, hhr⟩ := id hKM
  have hSn : CS G (Zf G A S0 now) M (61 + 10 * (now % 16)) := hKR.1 now (by omega) (by omega)
  have hwn : wS G (Zf G A S0 now) := wS_Zf hW hw0 now
  refine xi_aload_n dX9_step_0 rfl ?_
  refine xe_getI (v := nI now) dX9_step_1 fgX9_98 cc0 rfl hno ?_
  refine xi_sipush (v := 500) dX9_step_4 (by decide) ?_
  refine xn_icmp_lt now 500 13 dX9_step_7 (by decide) rfl rfl (by omega) (by omega) (fun h7 => ?_) (fun z => absurd z (by omega))
  refine xi_aload_n dX9_step_13 rfl ?_
  refine xi_getR dX9_step_14 fgX9_30 cc0 rfl ?_
  refine xi_aload_n dX9_step_17 rfl ?_
  refine xe_getI (v := nI now) dX9_step_18 fgX9_98 cc0 rfl hno ?_
  refine xi_aload_n dX9_step_21 rfl ?_
  refine xe_getI (v := nI now) dX9_step_22 fgX9_98 cc0 rfl hno ?_
  refine xi_iconst (v := 1) dX9_step_25 rfl ?_
  refine xat 26 rfl ?_
  refine xe_iadd dX9_step_26 (v := nI (now + 1)) (nI_add now 1) ?_
  refine xi_aload_n dX9_step_27 rfl ?_
  refine xi_getR dX9_step_28 fgX9_40 cc0 rfl ?_
  refine xi_callV [.int (nI now), .int (nI (now + 1)), .ref 13] [] dX9_step_31 zX5_work mlX9_193 cc9 rfl rfl rfl rfl rfl (Nat.le_of_ble_eq_true rfl) (Nat.le_of_ble_eq_true rfl) ⟨by decide, by decide⟩ ?_
  refine s_work9 (Z := Zf G A S0) hW (lo := now - 15) (fr := now) (to := now + 1) (by omega) (by omega) (by omega) hG (by rw [Nat.max_self]; exact hKR.1) hwn hL (fun u _ _ => rfl) (fun M1 F1 R1 l1 w1 => ?_)
  rw [show max (now - 15) (now + 1 - 15) = now + 1 - 15 by omega] at R1
  rw [show now + 1 - now = 1 by omega, Hx_step hW] at l1
  show WP _ _ 34 _ [] _ _
  refine xi_aload_n dX9_step_34 rfl ?_
  refine xi_dup dX9_step_35 rfl ?_
  refine xe_getI (v := nI now) dX9_step_36 fgX9_98 cc0 rfl (by rw [F1.1]; exact hno) ?_
  refine xi_iconst (v := 1) dX9_step_39 rfl ?_
  refine xe_iadd dX9_step_40 (v := nI (now + 1)) (nI_add now 1) ?_
  refine xi_put dX9_step_41 fpX9_98 cc0 rfl ?_
  generalize eM2 : (xf M1 0 9 (nI (now + 1))) = M2
  have fr : ∀ lo hi, 0 < lo → (220 < lo ∨ hi < 62) → (hi < 15 ∨ 15 < lo) → sC2 lo hi M M2 := fun lo hi q0 q1 q2 => by rw [← eM2]; exact (sC2.fk F1 (by omega) q2).tr (sC2.xf (by omega))
  have g2 : CG G M2 := hG.sm (fr _ _ (by omega) (by omega) (by omega))
  have fx : ∀ lo hi, 0 < lo → sC2 lo hi M1 M2 := fun lo hi q0 => by rw [← eM2]; exact sC2.xf (by omega)
  have R2 : CR G (Zf G A S0) M2 (now + 1 - 15) (now + 1) := fun u q1 q2 => (R1 u q1 q2).sm (fx _ _ (by omega))
  have l2 := l1.sm (fx 13 16 (by omega))
  have k9 : KM (now + 1) late risk nl rf hr M2 := by rw [← eM2]; exact ⟨xf_s, (xf_k (by decide)).trans (by rw [F1.1]; exact hla), (xf_k (by decide)).trans (by rw [F1.1]; exact hri), (xf_k (by decide)).trans (by rw [F1.1]; exact hnl), (xf_k (by decide)).trans (by rw [F1.1]; exact hrf), (xf_k (by decide)).trans (by rw [F1.1]; exact hhr)⟩
  have k7 := hKW.sm (fr 23 42 (by omega) (by omega) (by omega))
  refine xi_aload_n dX9_step_44 rfl ?_
  refine xe_getI (v := nI (now + 1)) dX9_step_45 fgX9_98 cc0 rfl k9.1 ?_
  refine xi_aload_n dX9_step_48 rfl ?_
  refine xe_getI (v := nI late) dX9_step_49 fgX9_101 cc0 rfl k9.2.1 ?_
  refine xi_isub dX9_step_52 ?_
  refine xat 53 rfl ?_
  refine xi_iconst (v := 1) dX9_step_53 rfl ?_
  refine xi_isub dX9_step_54 ?_
  obtain ⟨sx, esx⟩ : ∃ z, z = nI (now + 1) - nI late - 1 := ⟨_, rfl⟩
  have hsx : sx < 0 := by rw [esx]; exact settle_neg wn wl hln
  refine xtop (y := sx) esx.symm ?_
  refine xi_istore_n (lv' := [some (.ref 0), some (.int sx), none]) dX9_step_55 (by decide) rfl ?_
  refine xi_iconst (v := 0) dX9_step_56 rfl ?_
  refine xi_istore_n (lv' := [some (.ref 0), some (.int sx), some (.int 0)]) dX9_step_57 (by decide) rfl ?_
  refine xi_iload_n dX9_step_58 rfl ?_
  refine xi_aload_n dX9_step_59 rfl ?_
  refine xi_getR dX9_step_60 fgX9_10 cc0 rfl ?_
  refine xe_getI (v := nI (gP G)) dX9_step_63 fgX9_226 cc1 rfl (cg_P g2) ?_
  refine xn_icmp_ge 0 (gP G) 85 dX9_step_66 (by decide) rfl rfl (by omega) (by omega) (fun z => absurd z (by omega)) (fun h66 => ?_)
  refine xi_iload_n dX9_step_69 rfl ?_
  refine xi_if_lt 85 dX9_step_70 (by decide) (fun h70 => ?_) (fun h70 => ?_)
  · skip
    refine xi_aload_n dX9_step_85 rfl ?_
    refine xe_getI (v := nI (now + 1)) dX9_step_86 fgX9_98 cc0 rfl k9.1 ?_
    refine xi_iret (v := nI (now + 1)) dX9_step_89 rfl ?_
    have e9 : st_step (G, S0, now, late, risk, A, L, sq, nl, rf, hr, lg, w, tp) = (nI (now + 1), (G, S0, now + 1, late, risk, A, L, sq, nl, rf, hr, lg, w, tp)) := by show (if now = 500 then _ else (nI (now + 1), (G, S0, now + 1, late, risk, A, L, sq, nl, rf, hr, lg, (if late ≤ now then mlkL G (Zf G A S0 (now - late)) A (Hx G A S0 (now + 1)) (now - late) risk (now + 1) 0 (gP G) w else w), tp))) = _; rw [if_neg (by omega), if_neg (by omega)]
    rw [e9] at h
    refine h M2 (RepC_mk g2 (hKF.sm ((fr _ _ (by omega) (by omega) (by omega)))) ⟨R2, fun z => by omega⟩ l2 (hKE.sm ((fr _ _ (by omega) (by omega) (by omega)))) (hKS.sm ((fr _ _ (by omega) (by omega) (by omega)))) (fun q hq => (k7 q hq).cong (fun b => ?_)) (hKT.sm ((fr _ _ (by omega) (by omega) (by omega)))) k9)
    dsimp only
    rw [show now + 1 - late = 0 by omega, show now - late = 0 by omega]
    rfl
  · exact absurd hsx h70

set_option maxHeartbeats 4000000 in
set_option maxRecDepth 100000 in
theorem cl_stepF {G : xG} {S0 : xS} {now late risk : Nat} {A : Nat → Nat} {L : Nat → Bool} {sq : Nat → Nat} {nl : Nat} {rf hr : Int32} {lg : xE2} {w : xw} {tp : Nat → xT} {M : xM} {Q : Option Value → xM → Prop} (hX : wX (G, S0, now, late, risk, A, L, sq, nl, rf, hr, lg, w, tp)) (hC : RepC (G, S0, now, late, risk, A, L, sq, nl, rf, hr, lg, w, tp) M) (hl : now = 500) (h : ∀ M2, RepC (st_step (G, S0, now, late, risk, A, L, sq, nl, rf, hr, lg, w, tp)).2 M2 → Q (some (.int (st_step (G, S0, now, late, risk, A, L, sq, nl, rf, hr, lg, w, tp)).1)) M2) : WP shC mX9_step 0 [some (.ref 0), none, none] [] M Q := by
  obtain ⟨hW, hw0, wn, wl, wr, wA_, wsq, wnl, wmo, wtk, wwt, wtp, wO0, wB0⟩ := id hX
  obtain ⟨b1, b2, b3, b4, b5, b6, b7, b8, b9, wmap, wlink, wk0, wk1, b10, b11, wword⟩ := id hW
  have nb : nl ≤ 2000 := by rw [wnl]; exact mcnt_le 2000
  obtain ⟨hG, hKF, hKR, hL, hKE, hKS, hKW, hKT, hKM⟩ := id hC
  obtain ⟨hno, hla, hri, hnl, hrf, hhr⟩ := id hKM
  have hSn : CS G (Zf G A S0 now) M (61 + 10 * (now % 16)) := hKR.1 now (by omega) (by omega)
  have hwn : wS G (Zf G A S0 now) := wS_Zf hW hw0 now
  refine xi_aload_n dX9_step_0 rfl ?_
  refine xe_getI (v := nI now) dX9_step_1 fgX9_98 cc0 rfl hno ?_
  refine xi_sipush (v := 500) dX9_step_4 (by decide) ?_
  refine xn_icmp_lt now 500 13 dX9_step_7 (by decide) rfl rfl (by omega) (by omega) (fun z => absurd z (by omega)) (fun h7 => ?_)
  refine xi_bipush (v := (-4)) dX9_step_10 (by decide) ?_
  refine xi_iret (v := (-4)) dX9_step_12 rfl ?_
  have e9 : st_step (G, S0, now, late, risk, A, L, sq, nl, rf, hr, lg, w, tp) = (-4, (G, S0, now, late, risk, A, L, sq, nl, rf, hr, lg, w, tp)) := if_pos hl
  rw [e9] at h
  exact h M hC

set_option maxHeartbeats 4000000 in
set_option maxRecDepth 100000 in
theorem cl_step {X : xX} {M : xM} {Q : Option Value → xM → Prop} (hX : wX X) (hC : RepC X M) (h : ∀ M2, RepC (st_step X).2 M2 → Q (some (.int (st_step X).1)) M2) : WP shC mX9_step 0 [some (.ref 0), none, none] [] M Q := by
  obtain ⟨G, S0, now, late, risk, A, L, sq, nl, rf, hr, lg, w, tp⟩ := X
  have wn : now ≤ 500 := hX.2.2.1
  by_cases e : now = 500
  · exact cl_stepF hX hC e h
  by_cases e2 : late ≤ now
  · exact cl_stepA hX hC (by omega) e2 h
  · exact cl_stepB hX hC (by omega) (by omega) h

set_option maxHeartbeats 4000000 in
set_option maxRecDepth 100000 in
theorem mo_stepA {G : xG} {S0 : xS} {now late risk : Nat} {A : Nat → Nat} {L : Nat → Bool} {sq : Nat → Nat} {nl : Nat} {rf hr : Int32} {lg : xE2} {w : xw} {tp : Nat → xT} {M : xM} {Q : Option Value → xM → Prop} (hX : wX (G, S0, now, late, risk, A, L, sq, nl, rf, hr, lg, w, tp)) (hC : RepM (G, S0, now, late, risk, A, L, sq, nl, rf, hr, lg, w, tp) M) (hl : now < 500) (hln : late ≤ now) (h : ∀ M2, RepM (st_step (G, S0, now, late, risk, A, L, sq, nl, rf, hr, lg, w, tp)).2 M2 → Q (some (.int (st_step (G, S0, now, late, risk, A, L, sq, nl, rf, hr, lg, w, tp)).1)) M2) : WP shM mX10_step 0 [some (.ref 0), none] [] M Q := by
  obtain ⟨hW, hw0, wn, wl, wr, wA_, wsq, wnl, wmo, wtk, wwt, wtp, wO0, wB0⟩ := id hX
  obtain ⟨b1, b2, b3, b4, b5, b6, b7, b8, b9, wmap, wlink, wk0, wk1, b10, b11, wword⟩ := id hW
  have nb : nl ≤ 2000 := by rw [wnl]; exact mcnt_le 2000
  obtain ⟨hG, hNS, hNA, hNL, hNH, hNE, hNQ, hNW, hNT, hNM⟩ := id hC
  obtain ⟨hno, hla, hri, hnl, hrf, hhr⟩ := id hNM
  obtain ⟨s, es⟩ : ∃ s, s = 112 * now := ⟨_, rfl⟩
  have hs : s ≤ 56000 := by omega
  have hS : RM G (Zf G A S0 now) M s := by rw [es]; exact hNS.1 now (Nat.le_refl _)
  have hw : wS G (Zf G A S0 now) := wS_Zf hW hw0 now
  refine xi_aload_n dX10_step_0 rfl ?_
  refine xe_getI (v := nI now) dX10_step_1 fgX10_110 mm0 rfl hno ?_
  refine xi_sipush (v := 500) dX10_step_4 (by decide) ?_
  refine xn_icmp_ne now 500 13 dX10_step_7 (by decide) rfl rfl (by omega) (by omega) (fun h7 => ?_) (fun z => absurd z (by omega))
  refine xi_aload_n dX10_step_13 rfl ?_
  refine xi_aload_n dX10_step_14 rfl ?_
  refine xe_getI (v := nI now) dX10_step_15 fgX10_110 mm0 rfl hno ?_
  refine xi_callV [.int (nI now)] [] dX10_step_18 zX10_work mlX10_240 mm0 rfl rfl rfl rfl rfl (Nat.le_of_ble_eq_true rfl) (Nat.le_of_ble_eq_true rfl) ⟨by decide, by decide⟩ ?_
  refine n_work hW hG (s := 112 * (now + 1)) (by omega) rfl (hNS.1 now (Nat.le_refl _)) hw wA_ hNA hNH (fun M1 F1 R1 H1 => ?_)
  rw [show mtH G A now (Zf G A S0 now) (Hx G A S0 now) = (Hx G A S0 (now + 1)) from Hx_step hW] at H1
  show WP _ _ 21 _ [] _ _
  refine xi_aload_n dX10_step_21 rfl ?_
  refine xi_dup dX10_step_22 rfl ?_
  refine xe_getI (v := nI now) dX10_step_23 fgX10_110 mm0 rfl (by rw [F1.1]; exact hno) ?_
  refine xi_iconst (v := 1) dX10_step_26 rfl ?_
  refine xe_iadd dX10_step_27 (v := nI (now + 1)) (nI_add now 1) ?_
  refine xi_put dX10_step_28 fpX10_110 mm0 rfl ?_
  generalize eM2 : (xf M1 0 10 (nI (now + 1))) = M2
  have a2 : M2.2 = M1.2 := by rw [← eM2]; rfl
  have b2 : ∀ k, ¬ k = 10 → M2.1 0 k = M1.1 0 k := fun k hk => by rw [← eM2, xf_k hk]
  have j1 : MG G M2 := (hG.fh F1).sm (fun k hk => b2 k (by omega)) (fun a ha => by rw [a2])
  have j2 : NS G (Zf G A S0) (now + 1) M2 := by
    refine ⟨fun u hu => ?_, fun n hn => by rw [a2, F1.2.2.2 _ (by omega)]; exact hNS.2 n hn⟩
    by_cases e : u = now + 1
    · rw [e]; exact R1.mv hW (fun j _ => by rw [a2])
    · exact (hNS.1 u (by omega)).mv hW (fun j _ => by rw [a2]; exact F1.2.2.2 _ (by omega))
  have j3 : MA A M2 := (hNA.fh F1).sm (by rw [a2])
  have j4 : NL L M2 := hNL.sm (by rw [a2]; exact F1.2.2.1 7 (by decide) (by decide))
  have j5 : MH (Hx G A S0 (now + 1)) M2 := H1.sm (by rw [a2])
  have j6 : NE lg M2 := hNE.sm (by rw [a2]; exact F1.2.2.1 10 (by decide) (by decide)) (fun k q1 q2 => by rw [b2 k (by omega), F1.1])
  have j7 : NQ sq M2 := hNQ.sm (by rw [a2]; exact F1.2.2.1 9 (by decide) (by decide))
  have j8 : MWt w M2 := hNW.sm (fun a q1 q2 => by rw [a2]; exact F1.2.2.1 a (by omega) (by omega)) (by rw [a2, F1.2.1])
  have j9 : NT tp M2 := hNT.sm (fun a q1 q2 => by rw [a2]; exact F1.2.2.1 a (by omega) (by omega)) (by rw [a2, F1.2.1])
  have j10 : NM (now + 1) late risk nl rf hr M2 := ⟨by rw [← eM2, xf_s], by rw [b2 11 (by decide), F1.1]; exact hla, by rw [b2 12 (by decide), F1.1]; exact hri, by rw [b2 18 (by decide), F1.1]; exact hnl, by rw [b2 19 (by decide), F1.1]; exact hrf, by rw [b2 20 (by decide), F1.1]; exact hhr⟩
  refine xi_aload_n dX10_step_31 rfl ?_
  refine xe_getI (v := nI (now + 1)) dX10_step_32 fgX10_110 mm0 rfl j10.1 ?_
  refine xi_aload_n dX10_step_35 rfl ?_
  refine xe_getI (v := nI late) dX10_step_36 fgX10_32 mm0 rfl j10.2.1 ?_
  refine xe_isub dX10_step_39 (v := nI (now + 1 - late)) (pk_sub (by omega)) ?_
  refine xat 40 rfl ?_
  refine xi_iconst (v := 1) dX10_step_40 rfl ?_
  refine xe_isub dX10_step_41 (v := nI (now - late)) ((pk_sub (a := now + 1 - late) (b := 1) (by omega)).trans (congrArg nI (by omega))) ?_
  refine xi_istore_n (lv' := [some (.ref 0), some (.int (nI (now - late)))]) dX10_step_42 (by decide) rfl ?_
  refine xi_iload_n dX10_step_43 rfl ?_
  refine xn_if_lt (now - late) 52 dX10_step_44 (by decide) rfl (by omega) ?_
  refine xi_aload_n dX10_step_47 rfl ?_
  refine xi_iload_n dX10_step_48 rfl ?_
  refine xi_callV [.int (nI (now - late))] [] dX10_step_49 zX10_look mlX10_250 mm0 rfl rfl rfl rfl rfl (Nat.le_of_ble_eq_true rfl) (Nat.le_of_ble_eq_true rfl) ⟨by decide, by decide⟩ ?_
  refine n_look (s := 112 * (now - late)) hW (by omega) (by omega) rfl j1 (j2.1 (now - late) (by omega)) (wS_Zf hW hw0 _) wA_ j3 j5 (fun i => Hx_le hW hw0 i) j8 wwt wr (by omega) j10.2.2.1 j10.1 (fun M3 F3 W3 => ?_)
  show WP _ _ 52 _ [] _ _
  refine xi_aload_n dX10_step_52 rfl ?_
  refine xe_getI (v := nI (now + 1)) dX10_step_53 fgX10_110 mm0 rfl (by rw [F3.1]; exact j10.1) ?_
  refine xi_iret (v := nI (now + 1)) dX10_step_56 rfl ?_
  have e9 : st_step (G, S0, now, late, risk, A, L, sq, nl, rf, hr, lg, w, tp) = (nI (now + 1), (G, S0, now + 1, late, risk, A, L, sq, nl, rf, hr, lg, mlkL G (Zf G A S0 (now - late)) A (Hx G A S0 (now + 1)) (now - late) risk (now + 1) 0 (gP G) w, tp)) := by show (if now = 500 then _ else (nI (now + 1), (G, S0, now + 1, late, risk, A, L, sq, nl, rf, hr, lg, (if late ≤ now then mlkL G (Zf G A S0 (now - late)) A (Hx G A S0 (now + 1)) (now - late) risk (now + 1) 0 (gP G) w else w), tp))) = _; rw [if_neg (by omega), if_pos hln]
  rw [e9] at h
  exact h M3 (RepM_mk (j1.fw F3) (j2.sm hW (F3.2.1 5 (by decide) (by decide) (by decide) (by decide) (by decide))) (j3.fw F3) (j4.sm (F3.2.1 7 (by decide) (by decide) (by decide) (by decide) (by decide))) (j5.fw F3) (j6.sm (F3.2.1 10 (by decide) (by decide) (by decide) (by decide) (by decide)) (fun k _ _ => by rw [F3.1])) (j7.sm (F3.2.1 9 (by decide) (by decide) (by decide) (by decide) (by decide))) W3 (j9.sm (fun a q1 q2 => F3.2.1 a (by omega) (by omega) (by omega) (by omega) (by omega)) (F3.2.2 21 (by decide))) (j10.sm (fun k _ => by rw [F3.1])))

set_option maxHeartbeats 4000000 in
set_option maxRecDepth 100000 in
theorem mo_stepB {G : xG} {S0 : xS} {now late risk : Nat} {A : Nat → Nat} {L : Nat → Bool} {sq : Nat → Nat} {nl : Nat} {rf hr : Int32} {lg : xE2} {w : xw} {tp : Nat → xT} {M : xM} {Q : Option Value → xM → Prop} (hX : wX (G, S0, now, late, risk, A, L, sq, nl, rf, hr, lg, w, tp)) (hC : RepM (G, S0, now, late, risk, A, L, sq, nl, rf, hr, lg, w, tp) M) (hl : now < 500) (hln : now < late) (h : ∀ M2, RepM (st_step (G, S0, now, late, risk, A, L, sq, nl, rf, hr, lg, w, tp)).2 M2 → Q (some (.int (st_step (G, S0, now, late, risk, A, L, sq, nl, rf, hr, lg, w, tp)).1)) M2) : WP shM mX10_step 0 [some (.ref 0), none] [] M Q := by
  obtain ⟨hW, hw0, wn, wl, wr, wA_, wsq, wnl, wmo, wtk, wwt, wtp, wO0, wB0⟩ := id hX
  obtain ⟨b1, b2, b3, b4, b5, b6, b7, b8, b9, wmap, wlink, wk0, wk1, b10, b11, wword⟩ := id hW
  have nb : nl ≤ 2000 := by rw [wnl]; exact mcnt_le 2000
  obtain ⟨hG, hNS, hNA, hNL, hNH, hNE, hNQ, hNW, hNT, hNM⟩ := id hC
  obtain ⟨hno, hla, hri, hnl, hrf, hhr⟩ := id hNM
  obtain ⟨s, es⟩ : ∃ s, s = 112 * now := ⟨_, rfl⟩
  have hs : s ≤ 56000 := by omega
  have hS : RM G (Zf G A S0 now) M s := by rw [es]; exact hNS.1 now (Nat.le_refl _)
  have hw : wS G (Zf G A S0 now) := wS_Zf hW hw0 now
  refine xi_aload_n dX10_step_0 rfl ?_
  refine xe_getI (v := nI now) dX10_step_1 fgX10_110 mm0 rfl hno ?_
  refine xi_sipush (v := 500) dX10_step_4 (by decide) ?_
  refine xn_icmp_ne now 500 13 dX10_step_7 (by decide) rfl rfl (by omega) (by omega) (fun h7 => ?_) (fun h7 => ?_)
  · skip
    refine xi_aload_n dX10_step_13 rfl ?_
    refine xi_aload_n dX10_step_14 rfl ?_
    refine xe_getI (v := nI now) dX10_step_15 fgX10_110 mm0 rfl hno ?_
    refine xi_callV [.int (nI now)] [] dX10_step_18 zX10_work mlX10_240 mm0 rfl rfl rfl rfl rfl (Nat.le_of_ble_eq_true rfl) (Nat.le_of_ble_eq_true rfl) ⟨by decide, by decide⟩ ?_
    refine n_work hW hG (s := 112 * (now + 1)) (by omega) rfl (hNS.1 now (Nat.le_refl _)) hw wA_ hNA hNH (fun M1 F1 R1 H1 => ?_)
    rw [show mtH G A now (Zf G A S0 now) (Hx G A S0 now) = (Hx G A S0 (now + 1)) from Hx_step hW] at H1
    show WP _ _ 21 _ [] _ _
    refine xi_aload_n dX10_step_21 rfl ?_
    refine xi_dup dX10_step_22 rfl ?_
    refine xe_getI (v := nI now) dX10_step_23 fgX10_110 mm0 rfl (by rw [F1.1]; exact hno) ?_
    refine xi_iconst (v := 1) dX10_step_26 rfl ?_
    refine xe_iadd dX10_step_27 (v := nI (now + 1)) (nI_add now 1) ?_
    refine xi_put dX10_step_28 fpX10_110 mm0 rfl ?_
    generalize eM2 : (xf M1 0 10 (nI (now + 1))) = M2
    have a2 : M2.2 = M1.2 := by rw [← eM2]; rfl
    have b2 : ∀ k, ¬ k = 10 → M2.1 0 k = M1.1 0 k := fun k hk => by rw [← eM2, xf_k hk]
    have j1 : MG G M2 := (hG.fh F1).sm (fun k hk => b2 k (by omega)) (fun a ha => by rw [a2])
    have j2 : NS G (Zf G A S0) (now + 1) M2 := by
      refine ⟨fun u hu => ?_, fun n hn => by rw [a2, F1.2.2.2 _ (by omega)]; exact hNS.2 n hn⟩
      by_cases e : u = now + 1
      · rw [e]; exact R1.mv hW (fun j _ => by rw [a2])
      · exact (hNS.1 u (by omega)).mv hW (fun j _ => by rw [a2]; exact F1.2.2.2 _ (by omega))
    have j3 : MA A M2 := (hNA.fh F1).sm (by rw [a2])
    have j4 : NL L M2 := hNL.sm (by rw [a2]; exact F1.2.2.1 7 (by decide) (by decide))
    have j5 : MH (Hx G A S0 (now + 1)) M2 := H1.sm (by rw [a2])
    have j6 : NE lg M2 := hNE.sm (by rw [a2]; exact F1.2.2.1 10 (by decide) (by decide)) (fun k q1 q2 => by rw [b2 k (by omega), F1.1])
    have j7 : NQ sq M2 := hNQ.sm (by rw [a2]; exact F1.2.2.1 9 (by decide) (by decide))
    have j8 : MWt w M2 := hNW.sm (fun a q1 q2 => by rw [a2]; exact F1.2.2.1 a (by omega) (by omega)) (by rw [a2, F1.2.1])
    have j9 : NT tp M2 := hNT.sm (fun a q1 q2 => by rw [a2]; exact F1.2.2.1 a (by omega) (by omega)) (by rw [a2, F1.2.1])
    have j10 : NM (now + 1) late risk nl rf hr M2 := ⟨by rw [← eM2, xf_s], by rw [b2 11 (by decide), F1.1]; exact hla, by rw [b2 12 (by decide), F1.1]; exact hri, by rw [b2 18 (by decide), F1.1]; exact hnl, by rw [b2 19 (by decide), F1.1]; exact hrf, by rw [b2 20 (by decide), F1.1]; exact hhr⟩
    refine xi_aload_n dX10_step_31 rfl ?_
    refine xe_getI (v := nI (now + 1)) dX10_step_32 fgX10_110 mm0 rfl j10.1 ?_
    refine xi_aload_n dX10_step_35 rfl ?_
    refine xe_getI (v := nI late) dX10_step_36 fgX10_32 mm0 rfl j10.2.1 ?_
    refine xi_isub dX10_step_39 ?_
    refine xat 40 rfl ?_
    refine xi_iconst (v := 1) dX10_step_40 rfl ?_
    refine xi_isub dX10_step_41 ?_
    obtain ⟨sx, esx⟩ : ∃ z, z = nI (now + 1) - nI late - 1 := ⟨_, rfl⟩
    have hsx : sx < 0 := by rw [esx]; exact settle_neg wn wl hln
    refine xtop (y := sx) esx.symm ?_
    refine xi_istore_n (lv' := [some (.ref 0), some (.int sx)]) dX10_step_42 (by decide) rfl ?_
    refine xi_iload_n dX10_step_43 rfl ?_
    refine xi_if_lt 52 dX10_step_44 (by decide) (fun h44 => ?_) (fun h44 => ?_)
    · skip
      refine xi_aload_n dX10_step_52 rfl ?_
      refine xe_getI (v := nI (now + 1)) dX10_step_53 fgX10_110 mm0 rfl j10.1 ?_
      refine xi_iret (v := nI (now + 1)) dX10_step_56 rfl ?_
      have e9 : st_step (G, S0, now, late, risk, A, L, sq, nl, rf, hr, lg, w, tp) = (nI (now + 1), (G, S0, now + 1, late, risk, A, L, sq, nl, rf, hr, lg, w, tp)) := by show (if now = 500 then _ else (nI (now + 1), (G, S0, now + 1, late, risk, A, L, sq, nl, rf, hr, lg, (if late ≤ now then mlkL G (Zf G A S0 (now - late)) A (Hx G A S0 (now + 1)) (now - late) risk (now + 1) 0 (gP G) w else w), tp))) = _; rw [if_neg (by omega), if_neg (by omega)]
      rw [e9] at h
      exact h M2 (RepM_mk j1 j2 j3 j4 j5 j6 j7 j8 j9 j10)
    · exact absurd hsx h44
  · omega

set_option maxHeartbeats 4000000 in
set_option maxRecDepth 100000 in
theorem mo_stepF {G : xG} {S0 : xS} {now late risk : Nat} {A : Nat → Nat} {L : Nat → Bool} {sq : Nat → Nat} {nl : Nat} {rf hr : Int32} {lg : xE2} {w : xw} {tp : Nat → xT} {M : xM} {Q : Option Value → xM → Prop} (hX : wX (G, S0, now, late, risk, A, L, sq, nl, rf, hr, lg, w, tp)) (hC : RepM (G, S0, now, late, risk, A, L, sq, nl, rf, hr, lg, w, tp) M) (hl : now = 500) (h : ∀ M2, RepM (st_step (G, S0, now, late, risk, A, L, sq, nl, rf, hr, lg, w, tp)).2 M2 → Q (some (.int (st_step (G, S0, now, late, risk, A, L, sq, nl, rf, hr, lg, w, tp)).1)) M2) : WP shM mX10_step 0 [some (.ref 0), none] [] M Q := by
  obtain ⟨hW, hw0, wn, wl, wr, wA_, wsq, wnl, wmo, wtk, wwt, wtp, wO0, wB0⟩ := id hX
  obtain ⟨b1, b2, b3, b4, b5, b6, b7, b8, b9, wmap, wlink, wk0, wk1, b10, b11, wword⟩ := id hW
  have nb : nl ≤ 2000 := by rw [wnl]; exact mcnt_le 2000
  obtain ⟨hG, hNS, hNA, hNL, hNH, hNE, hNQ, hNW, hNT, hNM⟩ := id hC
  obtain ⟨hno, hla, hri, hnl, hrf, hhr⟩ := id hNM
  obtain ⟨s, es⟩ : ∃ s, s = 112 * now := ⟨_, rfl⟩
  have hs : s ≤ 56000 := by omega
  have hS : RM G (Zf G A S0 now) M s := by rw [es]; exact hNS.1 now (Nat.le_refl _)
  have hw : wS G (Zf G A S0 now) := wS_Zf hW hw0 now
  refine xi_aload_n dX10_step_0 rfl ?_
  refine xe_getI (v := nI now) dX10_step_1 fgX10_110 mm0 rfl hno ?_
  refine xi_sipush (v := 500) dX10_step_4 (by decide) ?_
  refine xn_icmp_ne now 500 13 dX10_step_7 (by decide) rfl rfl (by omega) (by omega) (fun z => absurd z (by omega)) (fun h7 => ?_)
  refine xi_bipush (v := (-4)) dX10_step_10 (by decide) ?_
  refine xi_iret (v := (-4)) dX10_step_12 rfl ?_
  have e9 : st_step (G, S0, now, late, risk, A, L, sq, nl, rf, hr, lg, w, tp) = (-4, (G, S0, now, late, risk, A, L, sq, nl, rf, hr, lg, w, tp)) := if_pos hl
  rw [e9] at h
  exact h M hC

set_option maxHeartbeats 4000000 in
set_option maxRecDepth 100000 in
theorem mo_step {X : xX} {M : xM} {Q : Option Value → xM → Prop} (hX : wX X) (hC : RepM X M) (h : ∀ M2, RepM (st_step X).2 M2 → Q (some (.int (st_step X).1)) M2) : WP shM mX10_step 0 [some (.ref 0), none] [] M Q := by
  obtain ⟨G, S0, now, late, risk, A, L, sq, nl, rf, hr, lg, w, tp⟩ := X
  have wn : now ≤ 500 := hX.2.2.1
  by_cases e : now = 500
  · exact mo_stepF hX hC e h
  by_cases e2 : late ≤ now
  · exact mo_stepA hX hC (by omega) e2 h
  · exact mo_stepB hX hC (by omega) (by omega) h

theorem wx_step {X : xX} (hX : wX X) : wX (st_step X).2 := by
  obtain ⟨G, S0, now, late, risk, A, L, sq, nl, rf, hr, lg, w, tp⟩ := X
  obtain ⟨hW, hw0, wn, wl, wr, wA_, wsq, wnl, wmo, wtk, wwt, wtp, wO0, wB0⟩ := id hX
  by_cases e : now = 500
  · rw [show st_step (G, S0, now, late, risk, A, L, sq, nl, rf, hr, lg, w, tp) = (-4, (G, S0, now, late, risk, A, L, sq, nl, rf, hr, lg, w, tp)) from if_pos e]; exact hX
  · rw [show st_step (G, S0, now, late, risk, A, L, sq, nl, rf, hr, lg, w, tp) = (nI (now + 1), (G, S0, now + 1, late, risk, A, L, sq, nl, rf, hr, lg, (if late ≤ now then mlkL G (Zf G A S0 (now - late)) A (Hx G A S0 (now + 1)) (now - late) risk (now + 1) 0 (gP G) w else w), tp)) from if_neg e]
    refine ⟨hW, hw0, show now + 1 ≤ 500 by omega, wl, wr, wA_, wsq, wnl, wmo, wtk, ?_, wtp, wO0, wB0⟩
    by_cases q : late ≤ now
    · rw [if_pos q, show now + 1 - late = now - late + 1 by omega]
      exact (wwi.lookL (by omega) (by omega) _ _ _ wwt.wwi).ww
    · rw [if_neg q, show now + 1 - late = now - late by omega]
      exact wwt

