/-! the watch: trials by player and kind, the last tick of an act and the last gap -/
abbrev xw : Type := (Nat → xO) × (Nat → Option Nat) × (Nat → Option Nat)
def mgapG (lt : Option Nat) (t : Nat) : Option Nat := match lt with
  | none => none
  | some u => some (t - u)
def mgapO (o : xO) (lt lg : Option Nat) (t risk now : Nat) : xO := match mgapG lt t, lg with
  | some g, some h => madd o 262144 (decide (g = h)) risk now
  | _, _ => o
def mforO (G : xG) (S : xS) (p c h risk now : Nat) (o : xO) : xO :=
  if c % 16 = 2 then maddO o (mshotC G S p (c / 16 % 4)) (decide (0 < h)) risk now
  else if c % 16 = 3 then maddO o (mwordC G S p (c / 16 % 4)) (mwn G S p (c / 16 % 4) (c / 64 % 16)) risk now else o
def mlk (G : xG) (S : xS) (A H : Nat → Nat) (t risk now p : Nat) (w : xw) : xw :=
  if 0 < sL S p ∧ ¬ A (t * 4 + p) % 16 = 0 then
    (va_up (va_up w.1 (2 * p) (mforO G S p (A (t * 4 + p)) (H (t * 4 + p)) risk now (w.1 (2 * p)))) (2 * p + 1) (mgapO (w.1 (2 * p + 1)) (w.2.1 p) (w.2.2 p) t risk now), va_up w.2.1 p (some t), va_up w.2.2 p (mgapG (w.2.1 p) t))
  else w
def mlkL (G : xG) (S : xS) (A H : Nat → Nat) (t risk now : Nat) : Nat → Nat → xw → xw
  | _, 0, w => w
  | p, f + 1, w => mlkL G S A H t risk now (p + 1) f (mlk G S A H t risk now p w)
/-- well kept, before a look at tick t -/
def ww (w : xw) (t : Nat) : Prop := (∀ k, wO (w.1 k)) ∧ (∀ p u, w.2.1 p = some u → u < t) ∧ (∀ p, w.2.1 p = none → w.2.2 p = none) ∧ ∀ p g, w.2.2 p = some g → g < 500
/-- in the model's cells -/
def MWt (w : xw) (M : xM) : Prop := (∀ k, k < 8 → MO (w.1 k) M k) ∧ (∀ p, p < 4 → M.2.1 16 p = xo (w.2.1 p)) ∧ ∀ p, p < 4 → M.2.1 17 p = xo (w.2.2 p)
/-- changed in the watch alone -/
def Fw (M M2 : xM) : Prop := M2.1 = M.1 ∧ (∀ a, ¬ a = 12 → ¬ a = 13 → ¬ a = 14 → ¬ a = 16 → ¬ a = 17 → M2.2.1 a = M.2.1 a) ∧ ∀ a, ¬ a = 15 → M2.2.2 a = M.2.2 a
theorem Fw.rf {M : xM} : Fw M M := ⟨rfl, fun _ _ _ _ _ _ => rfl, fun _ _ => rfl⟩
theorem Fw.tr {M M1 M2 : xM} (h : Fw M M1) (h2 : Fw M1 M2) : Fw M M2 := ⟨h2.1.trans h.1, fun a q1 q2 q3 q4 q5 => (h2.2.1 a q1 q2 q3 q4 q5).trans (h.2.1 a q1 q2 q3 q4 q5), fun a q => (h2.2.2 a q).trans (h.2.2 a q)⟩
theorem FQ.fw {k : Nat} {M M2 : xM} (h : FQ k M M2) : Fw M M2 := ⟨h.1, fun a q1 q2 q3 _ _ => h.2.1 a q1 q2 q3, h.2.2.2.1⟩
theorem MO.fq {o : xO} {M M2 : xM} {k j : Nat} (h : MO o M j) (f : FQ k M M2) (q : ¬ j = k) : MO o M2 j := ⟨fun i hi => (f.2.2.2.2 _ (by omega)).trans (h.1 i hi), ((f.2.2.1 j q).1).trans h.2.1, ((f.2.2.1 j q).2.1).trans h.2.2.1, ((f.2.2.1 j q).2.2).trans h.2.2.2⟩
theorem MG.fw {G : xG} {M M2 : xM} (h : MG G M) (f : Fw M M2) : MG G M2 := h.keep (by rw [f.1]) (fun a ha => f.2.1 a (by omega) (by omega) (by omega) (by omega) (by omega))
theorem RM.fw {G : xG} {S : xS} {M M2 : xM} {s : Nat} (hW : wG G) (h : RM G S M s) (f : Fw M M2) : RM G S M2 s := h.mv hW (fun j _ => by rw [f.2.1 5 (by decide) (by decide) (by decide) (by decide) (by decide)])
theorem MA.fw {A : Nat → Nat} {M M2 : xM} (h : MA A M) (f : Fw M M2) : MA A M2 := fun i hi => by rw [f.2.1 6 (by decide) (by decide) (by decide) (by decide) (by decide)]; exact h i hi
theorem MH.fw {H : Nat → Nat} {M M2 : xM} (h : MH H M) (f : Fw M M2) : MH H M2 := fun i hi => by rw [f.2.1 8 (by decide) (by decide) (by decide) (by decide) (by decide)]; exact h i hi
theorem Fw.xa {a : Nat} {M : xM} {f : Nat → Int32} (h : a = 16 ∨ a = 17) : Fw M (xa M a f) := ⟨rfl, fun b _ _ _ q1 q2 => xa_n (by omega), fun _ _ => rfl⟩
theorem MO.xa {o : xO} {M : xM} {k a : Nat} {f : Nat → Int32} (h : MO o M k) (q : a = 16 ∨ a = 17) : MO o (xa M a f) k := ⟨h.1, by rw [xa_n (by omega)]; exact h.2.1, by rw [xa_n (by omega)]; exact h.2.2.1, by rw [xa_n (by omega)]; exact h.2.2.2⟩
def FGp (p : Nat) (M M2 : xM) : Prop := (∀ k, ¬ k = 2 * p + 1 → M2.2.1 12 k = M.2.1 12 k) ∧ (∀ k, ¬ k = 2 * p + 1 → M2.2.1 13 k = M.2.1 13 k) ∧ (∀ k, ¬ k = 2 * p + 1 → M2.2.1 14 k = M.2.1 14 k) ∧ (∀ i, (i < 65 * (2 * p + 1) ∨ 65 * (2 * p + 1) + 65 ≤ i) → M2.2.2 15 i = M.2.2 15 i) ∧ (∀ k, ¬ k = p → M2.2.1 16 k = M.2.1 16 k) ∧ ∀ k, ¬ k = p → M2.2.1 17 k = M.2.1 17 k
theorem MO.fg {o : xO} {M M2 : xM} {p j : Nat} (h : MO o M j) (f : FGp p M M2) (q : ¬ j = 2 * p + 1) : MO o M2 j := ⟨fun i hi => (f.2.2.2.1 _ (by omega)).trans (h.1 i hi), (f.1 j q).trans h.2.1, (f.2.1 j q).trans h.2.2.1, (f.2.2.1 j q).trans h.2.2.2⟩
theorem MWt.step {w : xw} {M M1 M2 : xM} {p t : Nat} {o1 o2 : xO} {g : Option Nat} (h : MWt w M) (F1 : FQ (2 * p) M M1) (O1 : MO o1 M1 (2 * p)) (F2 : FGp p M1 M2) (O2 : MO o2 M2 (2 * p + 1)) (k16 : M2.2.1 16 p = xo (some t)) (k17 : M2.2.1 17 p = xo g) : MWt (va_up (va_up w.1 (2 * p) o1) (2 * p + 1) o2, va_up w.2.1 p (some t), va_up w.2.2 p g) M2 := by
  refine ⟨fun k hk => ?_, fun q hq => ?_, fun q hq => ?_⟩
  · show MO (va_up (va_up w.1 (2 * p) o1) (2 * p + 1) o2 k) M2 k
    by_cases e1 : k = 2 * p + 1
    · rw [e1, up_s]; exact O2
    · rw [up_n e1]
      by_cases e2 : k = 2 * p
      · rw [e2, up_s]; exact O1.fg F2 (by omega)
      · rw [up_n e2]; exact ((h.1 k hk).fq F1 e2).fg F2 e1
  · show M2.2.1 16 q = xo (va_up w.2.1 p (some t) q)
    by_cases e : q = p
    · rw [e, up_s]; exact k16
    · rw [up_n e, F2.2.2.2.2.1 q e, F1.2.1 16 (by decide) (by decide) (by decide)]; exact h.2.1 q hq
  · show M2.2.1 17 q = xo (va_up w.2.2 p g q)
    by_cases e : q = p
    · rw [e, up_s]; exact k17
    · rw [up_n e, F2.2.2.2.2.2 q e, F1.2.1 17 (by decide) (by decide) (by decide)]; exact h.2.2 q hq
theorem wO_for {G : xG} {S : xS} {p c h risk now : Nat} {o : xO} (hw : wO o) (hn : now ≤ 500) : wO (mforO G S p c h risk now o) := by
  unfold mforO
  split
  · refine wO_addO hw (fun k e => ?_) hn
    unfold mshotC at e
    split at e
    · rename_i q
      cases e
      exact Nat.div_le_of_le_mul (by have : 1048576 * min (mhid G S p * munseen G S p (c / 16 % 4)) (mdark G S p) ≤ 1048576 * mdark G S p := Nat.mul_le_mul_left _ (Nat.min_le_right _ _); omega)
    · cases e
  · split
    · refine wO_addO hw (fun k e => ?_) hn
      unfold mwordC at e
      split at e
      · cases e
      · split at e
        · cases e; decide
        · cases e
    · exact hw
theorem wO_gap {o : xO} {lt lg : Option Nat} {t risk now : Nat} (h : wO o) (hn : now ≤ 500) : wO (mgapO o lt lg t risk now) := by
  unfold mgapO
  split
  · exact wO_add h (by decide) hn
  · exact h
set_option maxHeartbeats 4000000 in
set_option maxRecDepth 100000 in
theorem nl_gapN {M : xM} {Q : Option Value → xM → Prop} {o : xO} {p c t s risk now : Nat} {lg : Option Nat} (hp : p < 4) (ht : t < 500) (hO : MO o M (2 * p + 1)) (hwo : wO o) (hrb : risk ≤ 1048576) (hnb : now ≤ 500) (hri : M.1 0 12 = nI risk) (hno : M.1 0 10 = nI now) (hlt : M.2.1 16 p = xo none) (hlg : M.2.1 17 p = xo lg) (h : ∀ M2, Fw M M2 → FGp p M M2 → MO (mgapO o none lg t risk now) M2 (2 * p + 1) → (M2.2.1 16 p = xo (some t) ∧ M2.2.1 17 p = xo (mgapG none t)) → WP shM mX10_look 191 [some (.ref 0), some (.int (nI t)), some (.int (nI s)), some (.int (nI p)), none, none] [] M2 Q) : WP shM mX10_look 111 [some (.ref 0), some (.int (nI t)), some (.int (nI s)), some (.int (nI p)), some (.int (nI c)), none] [] M Q := by
  refine xi_aload_n dX10_look_111 rfl ?_
  refine xi_getR dX10_look_112 fgX10_74 mm0 rfl ?_
  refine xi_iload_n dX10_look_115 rfl ?_
  refine xe_iald (v := xo none) p dX10_look_116 mm16 (by decide) rfl (by omega) hlt ?_
  refine xi_if_ge 124 dX10_look_117 (by decide) (fun z => absurd z (by decide)) (fun _ => ?_)
  refine xi_iconst (v := (-1)) dX10_look_120 rfl ?_
  refine xi_goto 132 dX10_look_121 (by decide) ?_
  refine xi_istore (lv' := [some (.ref 0), some (.int (nI t)), some (.int (nI s)), some (.int (nI p)), some (.int (nI c)), some (.int (-1))]) dX10_look_132 (by decide) rfl ?_
  refine xi_iload dX10_look_134 rfl ?_
  refine xi_if_lt 176 dX10_look_136 (by decide) (fun h136 => ?_) (fun h136 => ?_)
  · skip
    refine xi_aload_n dX10_look_176 rfl ?_
    refine xi_getR dX10_look_177 fgX10_74 mm0 rfl ?_
    refine xi_iload_n dX10_look_180 rfl ?_
    refine xi_iload_n dX10_look_181 rfl ?_
    refine xe_iast p dX10_look_182 mm16 (by decide) rfl (by omega) ?_
    generalize eM3 : (xa M 16 (upd (M.2.1 16) p (nI t))) = M3
    have k16 : M3.2.1 16 p = xo (some t) := by rw [← eM3, xa_s, upd_s]; rfl
    refine xi_aload_n dX10_look_183 rfl ?_
    refine xi_getR dX10_look_184 fgX10_77 mm0 rfl ?_
    refine xi_iload_n dX10_look_187 rfl ?_
    refine xi_iload dX10_look_188 rfl ?_
    refine xe_iast p dX10_look_190 mm17 (by decide) rfl (by omega) ?_
    refine xi_drop [true, true, true, true, false, false] rfl ?_
    have eO : mgapO o none lg t risk now = o := by cases lg <;> rfl
    rw [eO] at h
    refine h _ ?_ ?_ ?_ ?_
    · exact (Fw.rf.tr (by rw [← eM3]; exact Fw.xa (Or.inl rfl))).tr (Fw.xa (Or.inr rfl))
    · exact ⟨fun k q => by rw [xa_n (by decide), ← eM3, xa_n (by decide)], fun k q => by rw [xa_n (by decide), ← eM3, xa_n (by decide)], fun k q => by rw [xa_n (by decide), ← eM3, xa_n (by decide)], fun i q => by rw [← eM3]; rfl, fun k q => by rw [xa_n (by decide), ← eM3, xa_s, upd_n q], fun k q => by rw [xa_s, upd_n q, ← eM3, xa_n (by decide)]⟩
    · exact MO.xa (by rw [← eM3]; exact MO.xa hO (Or.inl rfl)) (Or.inr rfl)
    · exact ⟨by rw [xa_n (by decide)]; exact k16, by rw [xa_s, upd_s]; rfl⟩
  · exact absurd (by decide) h136

set_option maxHeartbeats 4000000 in
set_option maxRecDepth 100000 in
theorem nl_gapS {M : xM} {Q : Option Value → xM → Prop} {o : xO} {p c t s risk now : Nat} {u : Nat} (hu : u < t) (hp : p < 4) (ht : t < 500) (hO : MO o M (2 * p + 1)) (hwo : wO o) (hrb : risk ≤ 1048576) (hnb : now ≤ 500) (hri : M.1 0 12 = nI risk) (hno : M.1 0 10 = nI now) (hlt : M.2.1 16 p = xo (some u)) (hlg : M.2.1 17 p = xo none) (h : ∀ M2, Fw M M2 → FGp p M M2 → MO (mgapO o (some u) none t risk now) M2 (2 * p + 1) → (M2.2.1 16 p = xo (some t) ∧ M2.2.1 17 p = xo (mgapG (some u) t)) → WP shM mX10_look 191 [some (.ref 0), some (.int (nI t)), some (.int (nI s)), some (.int (nI p)), none, none] [] M2 Q) : WP shM mX10_look 111 [some (.ref 0), some (.int (nI t)), some (.int (nI s)), some (.int (nI p)), some (.int (nI c)), none] [] M Q := by
  refine xi_aload_n dX10_look_111 rfl ?_
  refine xi_getR dX10_look_112 fgX10_74 mm0 rfl ?_
  refine xi_iload_n dX10_look_115 rfl ?_
  refine xe_iald (v := nI u) p dX10_look_116 mm16 (by decide) rfl (by omega) hlt ?_
  refine xn_if_ge u 124 dX10_look_117 (by decide) rfl (by omega) ?_
  refine xi_iload_n dX10_look_124 rfl ?_
  refine xi_aload_n dX10_look_125 rfl ?_
  refine xi_getR dX10_look_126 fgX10_74 mm0 rfl ?_
  refine xi_iload_n dX10_look_129 rfl ?_
  refine xe_iald (v := nI u) p dX10_look_130 mm16 (by decide) rfl (by omega) hlt ?_
  refine xe_isub dX10_look_131 (v := nI (t - u)) (pk_sub (a := t) (b := u) (by omega)) ?_
  refine xat 132 rfl ?_
  refine xi_istore (lv' := [some (.ref 0), some (.int (nI t)), some (.int (nI s)), some (.int (nI p)), some (.int (nI c)), some (.int (nI (t - u)))]) dX10_look_132 (by decide) rfl ?_
  refine xi_iload dX10_look_134 rfl ?_
  refine xn_if_lt (t - u) 176 dX10_look_136 (by decide) rfl (by omega) ?_
  refine xi_aload_n dX10_look_139 rfl ?_
  refine xi_getR dX10_look_140 fgX10_77 mm0 rfl ?_
  refine xi_iload_n dX10_look_143 rfl ?_
  refine xe_iald (v := xo none) p dX10_look_144 mm17 (by decide) rfl (by omega) hlg ?_
  refine xi_if_lt 176 dX10_look_145 (by decide) (fun _ => ?_) (fun z => absurd (show xo none < 0 by decide) z)
  refine xi_aload_n dX10_look_176 rfl ?_
  refine xi_getR dX10_look_177 fgX10_74 mm0 rfl ?_
  refine xi_iload_n dX10_look_180 rfl ?_
  refine xi_iload_n dX10_look_181 rfl ?_
  refine xat 182 rfl ?_
  refine xe_iast p dX10_look_182 mm16 (by decide) rfl (by omega) ?_
  generalize eM3 : (xa M 16 (upd (M.2.1 16) p (nI t))) = M3
  have k16 : M3.2.1 16 p = xo (some t) := by rw [← eM3, xa_s, upd_s]; rfl
  refine xi_aload_n dX10_look_183 rfl ?_
  refine xi_getR dX10_look_184 fgX10_77 mm0 rfl ?_
  refine xi_iload_n dX10_look_187 rfl ?_
  refine xi_iload dX10_look_188 rfl ?_
  refine xe_iast p dX10_look_190 mm17 (by decide) rfl (by omega) ?_
  refine xi_drop [true, true, true, true, false, false] rfl ?_
  have eO : mgapO o (some u) none t risk now = o := rfl
  rw [eO] at h
  refine h _ ?_ ?_ ?_ ?_
  · exact (Fw.rf.tr (by rw [← eM3]; exact Fw.xa (Or.inl rfl))).tr (Fw.xa (Or.inr rfl))
  · exact ⟨fun k q => by rw [xa_n (by decide), ← eM3, xa_n (by decide)], fun k q => by rw [xa_n (by decide), ← eM3, xa_n (by decide)], fun k q => by rw [xa_n (by decide), ← eM3, xa_n (by decide)], fun i q => by rw [← eM3]; rfl, fun k q => by rw [xa_n (by decide), ← eM3, xa_s, upd_n q], fun k q => by rw [xa_s, upd_n q, ← eM3, xa_n (by decide)]⟩
  · exact MO.xa (by rw [← eM3]; exact MO.xa hO (Or.inl rfl)) (Or.inr rfl)
  · exact ⟨by rw [xa_n (by decide)]; exact k16, by rw [xa_s, upd_s]; rfl⟩

set_option maxHeartbeats 4000000 in
set_option maxRecDepth 100000 in
theorem nl_gapT {M : xM} {Q : Option Value → xM → Prop} {o : xO} {p c t s risk now : Nat} {u v : Nat} (hu : u < t) (hv : v < 500) (hp : p < 4) (ht : t < 500) (hO : MO o M (2 * p + 1)) (hwo : wO o) (hrb : risk ≤ 1048576) (hnb : now ≤ 500) (hri : M.1 0 12 = nI risk) (hno : M.1 0 10 = nI now) (hlt : M.2.1 16 p = xo (some u)) (hlg : M.2.1 17 p = xo (some v)) (h : ∀ M2, Fw M M2 → FGp p M M2 → MO (mgapO o (some u) (some v) t risk now) M2 (2 * p + 1) → (M2.2.1 16 p = xo (some t) ∧ M2.2.1 17 p = xo (mgapG (some u) t)) → WP shM mX10_look 191 [some (.ref 0), some (.int (nI t)), some (.int (nI s)), some (.int (nI p)), none, none] [] M2 Q) : WP shM mX10_look 111 [some (.ref 0), some (.int (nI t)), some (.int (nI s)), some (.int (nI p)), some (.int (nI c)), none] [] M Q := by
  refine xi_aload_n dX10_look_111 rfl ?_
  refine xi_getR dX10_look_112 fgX10_74 mm0 rfl ?_
  refine xi_iload_n dX10_look_115 rfl ?_
  refine xe_iald (v := nI u) p dX10_look_116 mm16 (by decide) rfl (by omega) hlt ?_
  refine xn_if_ge u 124 dX10_look_117 (by decide) rfl (by omega) ?_
  refine xi_iload_n dX10_look_124 rfl ?_
  refine xi_aload_n dX10_look_125 rfl ?_
  refine xi_getR dX10_look_126 fgX10_74 mm0 rfl ?_
  refine xi_iload_n dX10_look_129 rfl ?_
  refine xe_iald (v := nI u) p dX10_look_130 mm16 (by decide) rfl (by omega) hlt ?_
  refine xe_isub dX10_look_131 (v := nI (t - u)) (pk_sub (a := t) (b := u) (by omega)) ?_
  refine xat 132 rfl ?_
  refine xi_istore (lv' := [some (.ref 0), some (.int (nI t)), some (.int (nI s)), some (.int (nI p)), some (.int (nI c)), some (.int (nI (t - u)))]) dX10_look_132 (by decide) rfl ?_
  refine xi_iload dX10_look_134 rfl ?_
  refine xn_if_lt (t - u) 176 dX10_look_136 (by decide) rfl (by omega) ?_
  refine xi_aload_n dX10_look_139 rfl ?_
  refine xi_getR dX10_look_140 fgX10_77 mm0 rfl ?_
  refine xi_iload_n dX10_look_143 rfl ?_
  refine xe_iald (v := nI v) p dX10_look_144 mm17 (by decide) rfl (by omega) hlg ?_
  refine xn_if_lt v 176 dX10_look_145 (by decide) rfl (by omega) ?_
  refine xi_aload_n dX10_look_148 rfl ?_
  refine xi_iconst (v := 2) dX10_look_149 rfl ?_
  refine xi_iload_n dX10_look_150 rfl ?_
  refine xe_imul dX10_look_151 (v := nI (2 * p)) (pk_mul 2 p) ?_
  refine xat 152 rfl ?_
  refine xi_iconst (v := 1) dX10_look_152 rfl ?_
  refine xe_iadd dX10_look_153 (v := nI (2 * p + 1)) (nI_add (2 * p) 1) ?_
  refine xi_ldc2 (v := 262144) dX10_look_154 kcX10_264 ?_
  refine xtopj (y := nJ 262144) rfl ?_
  refine xi_iload dX10_look_157 rfl ?_
  refine xi_aload_n dX10_look_159 rfl ?_
  refine xi_getR dX10_look_160 fgX10_77 mm0 rfl ?_
  refine xi_iload_n dX10_look_163 rfl ?_
  refine xe_iald (v := nI v) p dX10_look_164 mm17 (by decide) rfl (by omega) hlg ?_
  refine xn_icmp_ne (t - u) v 172 dX10_look_165 (by decide) rfl rfl (by omega) (by omega) (fun h165 => ?_) (fun h165 => ?_)
  · skip
    refine xi_iconst (v := 0) dX10_look_172 rfl ?_
    refine xi_callV [.int (nI (2 * p + 1)), .long (nJ 262144), .int 0] [] dX10_look_173 zX10_tried mlX10_266 mm0 rfl rfl rfl rfl rfl (Nat.le_of_ble_eq_true rfl) (Nat.le_of_ble_eq_true rfl) ⟨by decide, by decide⟩ ?_
    refine n_tried (o := o) (k := 2 * p + 1) (c := 262144) (b := false) (by omega) hO hwo (by decide) hrb hnb hri hno (fun M2 F2 O2 => ?_)
    show WP _ _ 176 _ [] _ _
    refine xi_aload_n dX10_look_176 rfl ?_
    refine xi_getR dX10_look_177 fgX10_74 mm0 rfl ?_
    refine xi_iload_n dX10_look_180 rfl ?_
    refine xi_iload_n dX10_look_181 rfl ?_
    refine xe_iast p dX10_look_182 mm16 (by decide) rfl (by omega) ?_
    generalize eM3 : (xa M2 16 (upd (M2.2.1 16) p (nI t))) = M3
    have k16 : M3.2.1 16 p = xo (some t) := by rw [← eM3, xa_s, upd_s]; rfl
    refine xi_aload_n dX10_look_183 rfl ?_
    refine xi_getR dX10_look_184 fgX10_77 mm0 rfl ?_
    refine xi_iload_n dX10_look_187 rfl ?_
    refine xi_iload dX10_look_188 rfl ?_
    refine xe_iast p dX10_look_190 mm17 (by decide) rfl (by omega) ?_
    refine xi_drop [true, true, true, true, false, false] rfl ?_
    have eO : mgapO o (some u) (some v) t risk now = madd o 262144 false risk now := by show madd o 262144 (decide (t - u = v)) risk now = _; rw [show decide (t - u = v) = false by simp; omega]
    rw [eO] at h
    refine h _ ?_ ?_ ?_ ?_
    · exact (F2.fw.tr (by rw [← eM3]; exact Fw.xa (Or.inl rfl))).tr (Fw.xa (Or.inr rfl))
    · exact ⟨fun k q => by rw [xa_n (by decide), ← eM3, xa_n (by decide)]; exact (F2.2.2.1 k q).1, fun k q => by rw [xa_n (by decide), ← eM3, xa_n (by decide)]; exact (F2.2.2.1 k q).2.1, fun k q => by rw [xa_n (by decide), ← eM3, xa_n (by decide)]; exact (F2.2.2.1 k q).2.2, fun i q => by rw [← eM3]; exact F2.2.2.2.2 i q, fun k q => by rw [xa_n (by decide), ← eM3, xa_s, upd_n q, F2.2.1 16 (by decide) (by decide) (by decide)], fun k q => by rw [xa_s, upd_n q, ← eM3, xa_n (by decide), F2.2.1 17 (by decide) (by decide) (by decide)]⟩
    · exact MO.xa (by rw [← eM3]; exact MO.xa O2 (Or.inl rfl)) (Or.inr rfl)
    · exact ⟨by rw [xa_n (by decide)]; exact k16, by rw [xa_s, upd_s]; rfl⟩
  · skip
    refine xi_iconst (v := 1) dX10_look_168 rfl ?_
    refine xi_goto 173 dX10_look_169 (by decide) ?_
    refine xi_callV [.int (nI (2 * p + 1)), .long (nJ 262144), .int 1] [] dX10_look_173 zX10_tried mlX10_266 mm0 rfl rfl rfl rfl rfl (Nat.le_of_ble_eq_true rfl) (Nat.le_of_ble_eq_true rfl) ⟨by decide, by decide⟩ ?_
    refine n_tried (o := o) (k := 2 * p + 1) (c := 262144) (b := true) (by omega) hO hwo (by decide) hrb hnb hri hno (fun M2 F2 O2 => ?_)
    show WP _ _ 176 _ [] _ _
    refine xi_aload_n dX10_look_176 rfl ?_
    refine xi_getR dX10_look_177 fgX10_74 mm0 rfl ?_
    refine xi_iload_n dX10_look_180 rfl ?_
    refine xi_iload_n dX10_look_181 rfl ?_
    refine xe_iast p dX10_look_182 mm16 (by decide) rfl (by omega) ?_
    generalize eM3 : (xa M2 16 (upd (M2.2.1 16) p (nI t))) = M3
    have k16 : M3.2.1 16 p = xo (some t) := by rw [← eM3, xa_s, upd_s]; rfl
    refine xi_aload_n dX10_look_183 rfl ?_
    refine xi_getR dX10_look_184 fgX10_77 mm0 rfl ?_
    refine xi_iload_n dX10_look_187 rfl ?_
    refine xi_iload dX10_look_188 rfl ?_
    refine xe_iast p dX10_look_190 mm17 (by decide) rfl (by omega) ?_
    refine xi_drop [true, true, true, true, false, false] rfl ?_
    have eO : mgapO o (some u) (some v) t risk now = madd o 262144 true risk now := by show madd o 262144 (decide (t - u = v)) risk now = _; rw [show decide (t - u = v) = true by simp; omega]
    rw [eO] at h
    refine h _ ?_ ?_ ?_ ?_
    · exact (F2.fw.tr (by rw [← eM3]; exact Fw.xa (Or.inl rfl))).tr (Fw.xa (Or.inr rfl))
    · exact ⟨fun k q => by rw [xa_n (by decide), ← eM3, xa_n (by decide)]; exact (F2.2.2.1 k q).1, fun k q => by rw [xa_n (by decide), ← eM3, xa_n (by decide)]; exact (F2.2.2.1 k q).2.1, fun k q => by rw [xa_n (by decide), ← eM3, xa_n (by decide)]; exact (F2.2.2.1 k q).2.2, fun i q => by rw [← eM3]; exact F2.2.2.2.2 i q, fun k q => by rw [xa_n (by decide), ← eM3, xa_s, upd_n q, F2.2.1 16 (by decide) (by decide) (by decide)], fun k q => by rw [xa_s, upd_n q, ← eM3, xa_n (by decide), F2.2.1 17 (by decide) (by decide) (by decide)]⟩
    · exact MO.xa (by rw [← eM3]; exact MO.xa O2 (Or.inl rfl)) (Or.inr rfl)
    · exact ⟨by rw [xa_n (by decide)]; exact k16, by rw [xa_s, upd_s]; rfl⟩

set_option maxHeartbeats 4000000 in
set_option maxRecDepth 100000 in
theorem nl_gap {M : xM} {Q : Option Value → xM → Prop} {o : xO} {p c t s risk now : Nat} {lt lg : Option Nat} (hu : ∀ u, lt = some u → u < t) (hv : ∀ v, lg = some v → v < 500) (hp : p < 4) (ht : t < 500) (hO : MO o M (2 * p + 1)) (hwo : wO o) (hrb : risk ≤ 1048576) (hnb : now ≤ 500) (hri : M.1 0 12 = nI risk) (hno : M.1 0 10 = nI now) (hlt : M.2.1 16 p = xo lt) (hlg : M.2.1 17 p = xo lg) (h : ∀ M2, Fw M M2 → FGp p M M2 → MO (mgapO o lt lg t risk now) M2 (2 * p + 1) → (M2.2.1 16 p = xo (some t) ∧ M2.2.1 17 p = xo (mgapG lt t)) → WP shM mX10_look 191 [some (.ref 0), some (.int (nI t)), some (.int (nI s)), some (.int (nI p)), none, none] [] M2 Q) : WP shM mX10_look 111 [some (.ref 0), some (.int (nI t)), some (.int (nI s)), some (.int (nI p)), some (.int (nI c)), none] [] M Q := by
  cases lt with
  | none => exact nl_gapN hp ht hO hwo hrb hnb hri hno hlt hlg h
  | some u =>
    cases lg with
    | none => exact nl_gapS (hu u rfl) hp ht hO hwo hrb hnb hri hno hlt hlg h
    | some v => exact nl_gapT (hu u rfl) (hv v rfl) hp ht hO hwo hrb hnb hri hno hlt hlg h

set_option maxHeartbeats 4000000 in
set_option maxRecDepth 100000 in
theorem nl_look {G : xG} {S : xS} {s t risk now : Nat} {A H : Nat → Nat} {Q : Option Value → xM → Prop} (hW : wG G) (hs : s ≤ 56000) (ht : t < 500) (hw : wS G S) (wA_ : wA A) (hHb : ∀ i, H i ≤ 16) (hrb : risk ≤ 1048576) (hnb : now ≤ 500) : ∀ (f p : Nat) (w : xw) (M : xM), p + f = gP G → MG G M → RM G S M s → MA A M → MH H M → MWt w M → (∀ k, wO (w.1 k)) → (∀ q, p ≤ q → ∀ u, w.2.1 q = some u → u < t) → (∀ q v, w.2.2 q = some v → v < 500) → M.1 0 12 = nI risk → M.1 0 10 = nI now → (∀ M2, Fw M M2 → MWt (mlkL G S A H t risk now p f w) M2 → Q none M2) → WP shM mX10_look 7 [some (.ref 0), some (.int (nI t)), some (.int (nI s)), some (.int (nI p)), none, none] [] M Q := by
  obtain ⟨b1, b2, b3, b4, b5, b6, b7, b8, b9, wmap, wlink, wk0, wk1, b10, b11, wword⟩ := id hW
  intro f
  induction f with
  | zero =>
    intro p w M hf hG hS hA hH hWt hwo hlt2 hlg2 hri hno h
    refine xi_iload_n dX10_look_7 rfl ?_
    refine xi_aload_n dX10_look_8 rfl ?_
    refine xe_getI (v := nI (gP G)) dX10_look_9 fgX10_16 mm0 rfl (mg_P hG) ?_
    refine xn_icmp_ge p (gP G) 197 dX10_look_12 (by decide) rfl rfl (by omega) (by omega) (fun h12 => ?_) (fun h12 => ?_)
    · skip
      refine xi_vret dX10_look_197 rfl ?_
      exact h M Fw.rf hWt
    · omega
  | succ f ih =>
    intro p w M hf hG hS hA hH hWt hwo hlt2 hlg2 hri hno h
    replace h : ∀ M2, Fw M M2 → MWt (mlkL G S A H t risk now (p + 1) f (mlk G S A H t risk now p w)) M2 → Q none M2 := h
    refine xi_iload_n dX10_look_7 rfl ?_
    refine xi_aload_n dX10_look_8 rfl ?_
    refine xe_getI (v := nI (gP G)) dX10_look_9 fgX10_16 mm0 rfl (mg_P hG) ?_
    refine xn_icmp_ge p (gP G) 197 dX10_look_12 (by decide) rfl rfl (by omega) (by omega) (fun h12 => ?_) (fun h12 => ?_)
    · omega
    · skip
      obtain ⟨c, hc⟩ : ∃ c, c = A (t * 4 + p) := ⟨_, rfl⟩
      have hAc := wA_ (t * 4 + p)
      rw [← hc] at hAc
      refine xi_aload_n dX10_look_15 rfl ?_
      refine xi_getR dX10_look_16 fgX10_42 mm0 rfl ?_
      refine xi_iconst (v := 4) dX10_look_19 rfl ?_
      refine xi_iload_n dX10_look_20 rfl ?_
      refine xe_imul dX10_look_21 (v := nI (4 * t)) (pk_mul 4 t) ?_
      refine xi_iload_n dX10_look_22 rfl ?_
      refine xe_iadd dX10_look_23 (v := nI (4 * t + p)) (nI_add (4 * t) p) ?_
      refine xe_iald (v := nI c) (4 * t + p) dX10_look_24 mm6 (by decide) rfl (by omega) (by rw [hc, Nat.mul_comm 4 t]; exact hA _ (by omega)) ?_
      refine xi_istore (lv' := [some (.ref 0), some (.int (nI t)), some (.int (nI s)), some (.int (nI p)), some (.int (nI c)), none]) dX10_look_25 (by decide) rfl ?_
      refine xi_aload_n dX10_look_27 rfl ?_
      refine xi_iload_n dX10_look_28 rfl ?_
      refine xat 29 rfl ?_
      refine xi_iload_n dX10_look_29 rfl ?_
      refine xi_callV [.int (nI s), .int (nI p)] [] dX10_look_30 zX10_stands mlX10_161 mm0 rfl rfl rfl rfl rfl (Nat.le_of_ble_eq_true rfl) (Nat.le_of_ble_eq_true rfl) ⟨by decide, by decide⟩ ?_
      refine n_stands hW hG hs hS hw (n := p) (by omega) ?_
      show WP _ _ 33 _ [.int (xb (decide (0 < sL S p)))] _ _
      refine xb_if_eq (decide (0 < sL S p)) 191 dX10_look_33 (by decide) rfl (fun h33 => ?_) (fun h33 => ?_)
      · skip
        refine xi_iinc (v := nI (p + 1)) (lv' := [some (.ref 0), some (.int (nI t)), some (.int (nI s)), some (.int (nI (p + 1))), some (.int (nI c)), none]) dX10_look_191 rfl (xinc p) (by decide) rfl ?_
        refine xi_goto 7 dX10_look_194 (by decide) ?_
        have em : mlk G S A H t risk now p w = w := by
          unfold mlk
          rw [← hc]
          exact if_neg (fun q => by simp at h33; omega)
        refine xi_drop [true, true, true, true, false, false] rfl ?_
        exact ih (p + 1) w M (by omega) hG hS hA hH hWt hwo (fun q hq => hlt2 q (by omega)) hlg2 hri hno (fun M99 f99 w99 => h M99 f99 (by rw [em]; exact w99))
      · skip
        refine xi_iload dX10_look_36 rfl ?_
        refine xi_sipush (v := 4096) dX10_look_38 (by decide) ?_
        refine xn_icmp_eq c 4096 191 dX10_look_41 (by decide) rfl rfl (by omega) (by omega) (fun h41 => ?_) (fun h41 => ?_)
        · skip
          refine xi_iinc (v := nI (p + 1)) (lv' := [some (.ref 0), some (.int (nI t)), some (.int (nI s)), some (.int (nI (p + 1))), some (.int (nI c)), none]) dX10_look_191 rfl (xinc p) (by decide) rfl ?_
          refine xi_goto 7 dX10_look_194 (by decide) ?_
          have em : mlk G S A H t risk now p w = w := by
            unfold mlk
            rw [← hc]
            exact if_neg (fun q => q.2 (by omega))
          refine xi_drop [true, true, true, true, false, false] rfl ?_
          exact ih (p + 1) w M (by omega) hG hS hA hH hWt hwo (fun q hq => hlt2 q (by omega)) hlg2 hri hno (fun M99 f99 w99 => h M99 f99 (by rw [em]; exact w99))
        · skip
          refine xi_iload dX10_look_44 rfl ?_
          refine xi_bipush (v := 16) dX10_look_46 (by decide) ?_
          refine xe_irem dX10_look_48 (by decide) (v := nI (c % 16)) (pk_rem (d := 16) (by omega) (by omega) (by omega)) ?_
          refine xn_if_ne (c % 16) 55 dX10_look_49 (by decide) rfl (by omega) (fun h49 => ?_) (fun h49 => ?_)
          · skip
            refine xi_iload dX10_look_55 rfl ?_
            refine xi_bipush (v := 16) dX10_look_57 (by decide) ?_
            refine xe_irem dX10_look_59 (by decide) (v := nI (c % 16)) (pk_rem (d := 16) (by omega) (by omega) (by omega)) ?_
            refine xi_iconst (v := 2) dX10_look_60 rfl ?_
            refine xn_icmp_ne (c % 16) 2 94 dX10_look_61 (by decide) rfl rfl (by omega) (by omega) (fun h61 => ?_) (fun h61 => ?_)
            · skip
              refine xi_iload dX10_look_94 rfl ?_
              refine xi_bipush (v := 16) dX10_look_96 (by decide) ?_
              refine xe_irem dX10_look_98 (by decide) (v := nI (c % 16)) (pk_rem (d := 16) (by omega) (by omega) (by omega)) ?_
              refine xi_iconst (v := 3) dX10_look_99 rfl ?_
              refine xn_icmp_ne (c % 16) 3 111 dX10_look_100 (by decide) rfl rfl (by omega) (by omega) (fun h100 => ?_) (fun h100 => ?_)
              · skip
                obtain ⟨M1, eM1⟩ : ∃ M1, M1 = M := ⟨_, rfl⟩
                have F1 : FQ (2 * p) M M1 := by rw [eM1]; exact FQ.rf
                have O1 : MO (w.1 (2 * p)) M1 (2 * p) := by rw [eM1]; exact hWt.1 (2 * p) (by omega)
                rw [← eM1]
                have eF : mforO G S p c (H (t * 4 + p)) risk now (w.1 (2 * p)) = w.1 (2 * p) := by rw [mforO, if_neg h61, if_neg h100]
                have fw1 : Fw M M1 := F1.fw
                refine nl_gap (M := M1) (o := w.1 (2 * p + 1)) (lt := w.2.1 p) (lg := w.2.2 p) (hlt2 p (Nat.le_refl p)) (hlg2 p) (by omega) ht ((hWt.1 (2 * p + 1) (by omega)).fq F1 (by omega)) (hwo _) hrb hnb (by rw [F1.1]; exact hri) (by rw [F1.1]; exact hno) (by rw [F1.2.1 16 (by decide) (by decide) (by decide)]; exact hWt.2.1 p (by omega)) (by rw [F1.2.1 17 (by decide) (by decide) (by decide)]; exact hWt.2.2 p (by omega)) (fun M2 f2 F2 O2 k2 => ?_)
                have em : mlk G S A H t risk now p w = (va_up (va_up w.1 (2 * p) (mforO G S p c (H (t * 4 + p)) risk now (w.1 (2 * p)))) (2 * p + 1) (mgapO (w.1 (2 * p + 1)) (w.2.1 p) (w.2.2 p) t risk now), va_up w.2.1 p (some t), va_up w.2.2 p (mgapG (w.2.1 p) t)) := by
                  unfold mlk
                  rw [← hc]
                  exact if_pos ⟨by simpa using h33, h49⟩
                have hWt2 : MWt (mlk G S A H t risk now p w) M2 := by rw [em, eF]; exact MWt.step hWt F1 O1 F2 O2 k2.1 k2.2
                have fw2 : Fw M M2 := fw1.tr f2
                refine xi_iinc (v := nI (p + 1)) (lv' := [some (.ref 0), some (.int (nI t)), some (.int (nI s)), some (.int (nI (p + 1))), none, none]) dX10_look_191 rfl (xinc p) (by decide) rfl ?_
                refine xi_goto 7 dX10_look_194 (by decide) ?_
                refine ih (p + 1) (mlk G S A H t risk now p w) M2 (by omega) (hG.fw fw2) (hS.fw hW fw2) (hA.fw fw2) (hH.fw fw2) hWt2 ?_ ?_ ?_ (by rw [fw2.1]; exact hri) (by rw [fw2.1]; exact hno) (fun M99 f99 w99 => h M99 (fw2.tr f99) w99)
                · intro k
                  rw [em]
                  show wO (va_up (va_up w.1 (2 * p) _) (2 * p + 1) _ k)
                  by_cases e1 : k = 2 * p + 1
                  · rw [e1, up_s]; exact wO_gap (hwo _) hnb
                  · rw [up_n e1]
                    by_cases e2 : k = 2 * p
                    · rw [e2, up_s]; exact wO_for (hwo _) hnb
                    · rw [up_n e2]; exact hwo k
                · intro q hq y
                  rw [em]
                  show va_up w.2.1 p (some t) q = some y → _
                  rw [up_n (by omega)]
                  exact hlt2 q (by omega) y
                · intro q y
                  rw [em]
                  show va_up w.2.2 p (mgapG (w.2.1 p) t) q = some y → _
                  by_cases e1 : q = p
                  · rw [e1, up_s]
                    cases e2 : w.2.1 p with
                    | none => intro z; cases z
                    | some x => intro z; cases z; omega
                  · rw [up_n e1]; exact hlg2 q y
              · skip
                refine xi_aload_n dX10_look_103 rfl ?_
                refine xi_iload_n dX10_look_104 rfl ?_
                refine xi_iload_n dX10_look_105 rfl ?_
                refine xi_iload dX10_look_106 rfl ?_
                refine xi_callV [.int (nI s), .int (nI p), .int (nI c)] [] dX10_look_108 zX10_guess mlX10_261 mm0 rfl rfl rfl rfl rfl (Nat.le_of_ble_eq_true rfl) (Nat.le_of_ble_eq_true rfl) ⟨by decide, by decide⟩ ?_
                refine n_guess hW hG hs hS hw (p := p) (c := c) (by omega) (by omega) (hWt.1 (2 * p) (by omega)) (hwo _) hrb hnb hri hno (fun M1 F1 O1 => ?_)
                show WP _ _ 111 _ [] _ _
                have eF : mforO G S p c (H (t * 4 + p)) risk now (w.1 (2 * p)) = maddO (w.1 (2 * p)) (mwordC G S p (c / 16 % 4)) (mwn G S p (c / 16 % 4) (c / 64 % 16)) risk now := by rw [mforO, if_neg h61, if_pos h100]
                have fw1 : Fw M M1 := F1.fw
                refine nl_gap (M := M1) (o := w.1 (2 * p + 1)) (lt := w.2.1 p) (lg := w.2.2 p) (hlt2 p (Nat.le_refl p)) (hlg2 p) (by omega) ht ((hWt.1 (2 * p + 1) (by omega)).fq F1 (by omega)) (hwo _) hrb hnb (by rw [F1.1]; exact hri) (by rw [F1.1]; exact hno) (by rw [F1.2.1 16 (by decide) (by decide) (by decide)]; exact hWt.2.1 p (by omega)) (by rw [F1.2.1 17 (by decide) (by decide) (by decide)]; exact hWt.2.2 p (by omega)) (fun M2 f2 F2 O2 k2 => ?_)
                have em : mlk G S A H t risk now p w = (va_up (va_up w.1 (2 * p) (mforO G S p c (H (t * 4 + p)) risk now (w.1 (2 * p)))) (2 * p + 1) (mgapO (w.1 (2 * p + 1)) (w.2.1 p) (w.2.2 p) t risk now), va_up w.2.1 p (some t), va_up w.2.2 p (mgapG (w.2.1 p) t)) := by
                  unfold mlk
                  rw [← hc]
                  exact if_pos ⟨by simpa using h33, h49⟩
                have hWt2 : MWt (mlk G S A H t risk now p w) M2 := by rw [em, eF]; exact MWt.step hWt F1 O1 F2 O2 k2.1 k2.2
                have fw2 : Fw M M2 := fw1.tr f2
                refine xi_iinc (v := nI (p + 1)) (lv' := [some (.ref 0), some (.int (nI t)), some (.int (nI s)), some (.int (nI (p + 1))), none, none]) dX10_look_191 rfl (xinc p) (by decide) rfl ?_
                refine xi_goto 7 dX10_look_194 (by decide) ?_
                refine ih (p + 1) (mlk G S A H t risk now p w) M2 (by omega) (hG.fw fw2) (hS.fw hW fw2) (hA.fw fw2) (hH.fw fw2) hWt2 ?_ ?_ ?_ (by rw [fw2.1]; exact hri) (by rw [fw2.1]; exact hno) (fun M99 f99 w99 => h M99 (fw2.tr f99) w99)
                · intro k
                  rw [em]
                  show wO (va_up (va_up w.1 (2 * p) _) (2 * p + 1) _ k)
                  by_cases e1 : k = 2 * p + 1
                  · rw [e1, up_s]; exact wO_gap (hwo _) hnb
                  · rw [up_n e1]
                    by_cases e2 : k = 2 * p
                    · rw [e2, up_s]; exact wO_for (hwo _) hnb
                    · rw [up_n e2]; exact hwo k
                · intro q hq y
                  rw [em]
                  show va_up w.2.1 p (some t) q = some y → _
                  rw [up_n (by omega)]
                  exact hlt2 q (by omega) y
                · intro q y
                  rw [em]
                  show va_up w.2.2 p (mgapG (w.2.1 p) t) q = some y → _
                  by_cases e1 : q = p
                  · rw [e1, up_s]
                    cases e2 : w.2.1 p with
                    | none => intro z; cases z
                    | some x => intro z; cases z; omega
                  · rw [up_n e1]; exact hlg2 q y
            · skip
              refine xi_aload_n dX10_look_64 rfl ?_
              refine xi_getR dX10_look_65 fgX10_39 mm0 rfl ?_
              refine xi_iload_n dX10_look_68 rfl ?_
              refine xi_bipush (v := 6) dX10_look_69 (by decide) ?_
              refine xi_iload_n dX10_look_71 rfl ?_
              refine xe_imul dX10_look_72 (v := nI (6 * p)) (pk_mul 6 p) ?_
              refine xe_iadd dX10_look_73 (v := nI (s + (6 * p))) (nI_add s (6 * p)) ?_
              refine xi_iconst (v := 3) dX10_look_74 rfl ?_
              refine xe_iadd dX10_look_75 (v := nI (s + (6 * p) + 3)) (nI_add (s + (6 * p)) 3) ?_
              have q2 := (hw).2.2.2.1 p (by omega)
              refine xe_iald (v := nI (sR S p)) (s + (6 * p) + 3) dX10_look_76 mm5 (by decide) rfl (by omega) (rmR hS (by omega)) ?_
              refine xn_if_ne (sR S p) 94 dX10_look_77 (by decide) rfl (by omega) (fun h77 => ?_) (fun h77 => ?_)
              · skip
                refine xi_iload dX10_look_94 rfl ?_
                refine xi_bipush (v := 16) dX10_look_96 (by decide) ?_
                refine xe_irem dX10_look_98 (by decide) (v := nI (c % 16)) (pk_rem (d := 16) (by omega) (by omega) (by omega)) ?_
                refine xi_iconst (v := 3) dX10_look_99 rfl ?_
                refine xn_icmp_ne (c % 16) 3 111 dX10_look_100 (by decide) rfl rfl (by omega) (by omega) (fun h100 => ?_) (fun h100 => ?_)
                · skip
                  obtain ⟨M1, eM1⟩ : ∃ M1, M1 = M := ⟨_, rfl⟩
                  have F1 : FQ (2 * p) M M1 := by rw [eM1]; exact FQ.rf
                  have O1 : MO (w.1 (2 * p)) M1 (2 * p) := by rw [eM1]; exact hWt.1 (2 * p) (by omega)
                  rw [← eM1]
                  have eF : mforO G S p c (H (t * 4 + p)) risk now (w.1 (2 * p)) = w.1 (2 * p) := by rw [mforO, if_pos h61, mshotC, if_neg (fun q => h77 q.1)]; rfl
                  have fw1 : Fw M M1 := F1.fw
                  refine nl_gap (M := M1) (o := w.1 (2 * p + 1)) (lt := w.2.1 p) (lg := w.2.2 p) (hlt2 p (Nat.le_refl p)) (hlg2 p) (by omega) ht ((hWt.1 (2 * p + 1) (by omega)).fq F1 (by omega)) (hwo _) hrb hnb (by rw [F1.1]; exact hri) (by rw [F1.1]; exact hno) (by rw [F1.2.1 16 (by decide) (by decide) (by decide)]; exact hWt.2.1 p (by omega)) (by rw [F1.2.1 17 (by decide) (by decide) (by decide)]; exact hWt.2.2 p (by omega)) (fun M2 f2 F2 O2 k2 => ?_)
                  have em : mlk G S A H t risk now p w = (va_up (va_up w.1 (2 * p) (mforO G S p c (H (t * 4 + p)) risk now (w.1 (2 * p)))) (2 * p + 1) (mgapO (w.1 (2 * p + 1)) (w.2.1 p) (w.2.2 p) t risk now), va_up w.2.1 p (some t), va_up w.2.2 p (mgapG (w.2.1 p) t)) := by
                    unfold mlk
                    rw [← hc]
                    exact if_pos ⟨by simpa using h33, h49⟩
                  have hWt2 : MWt (mlk G S A H t risk now p w) M2 := by rw [em, eF]; exact MWt.step hWt F1 O1 F2 O2 k2.1 k2.2
                  have fw2 : Fw M M2 := fw1.tr f2
                  refine xi_iinc (v := nI (p + 1)) (lv' := [some (.ref 0), some (.int (nI t)), some (.int (nI s)), some (.int (nI (p + 1))), none, none]) dX10_look_191 rfl (xinc p) (by decide) rfl ?_
                  refine xi_goto 7 dX10_look_194 (by decide) ?_
                  refine ih (p + 1) (mlk G S A H t risk now p w) M2 (by omega) (hG.fw fw2) (hS.fw hW fw2) (hA.fw fw2) (hH.fw fw2) hWt2 ?_ ?_ ?_ (by rw [fw2.1]; exact hri) (by rw [fw2.1]; exact hno) (fun M99 f99 w99 => h M99 (fw2.tr f99) w99)
                  · intro k
                    rw [em]
                    show wO (va_up (va_up w.1 (2 * p) _) (2 * p + 1) _ k)
                    by_cases e1 : k = 2 * p + 1
                    · rw [e1, up_s]; exact wO_gap (hwo _) hnb
                    · rw [up_n e1]
                      by_cases e2 : k = 2 * p
                      · rw [e2, up_s]; exact wO_for (hwo _) hnb
                      · rw [up_n e2]; exact hwo k
                  · intro q hq y
                    rw [em]
                    show va_up w.2.1 p (some t) q = some y → _
                    rw [up_n (by omega)]
                    exact hlt2 q (by omega) y
                  · intro q y
                    rw [em]
                    show va_up w.2.2 p (mgapG (w.2.1 p) t) q = some y → _
                    by_cases e1 : q = p
                    · rw [e1, up_s]
                      cases e2 : w.2.1 p with
                      | none => intro z; cases z
                      | some x => intro z; cases z; omega
                    · rw [up_n e1]; exact hlg2 q y
                · omega
              · skip
                refine xi_aload_n dX10_look_80 rfl ?_
                refine xi_iload_n dX10_look_81 rfl ?_
                refine xi_iload_n dX10_look_82 rfl ?_
                refine xi_iload_n dX10_look_83 rfl ?_
                refine xi_iload dX10_look_84 rfl ?_
                refine xi_bipush (v := 16) dX10_look_86 (by decide) ?_
                refine xe_idiv dX10_look_88 (by decide) (v := nI (c / 16)) (pk_div (d := 16) (by omega) (by omega) (by omega)) ?_
                refine xi_iconst (v := 4) dX10_look_89 rfl ?_
                refine xe_irem dX10_look_90 (by decide) (v := nI (c / 16 % 4)) (pk_rem (d := 4) (by omega) (by omega) (by omega)) ?_
                refine xi_callV [.int (nI s), .int (nI t), .int (nI p), .int (nI (c / 16 % 4))] [] dX10_look_91 zX10_foresee mlX10_257 mm0 rfl rfl rfl rfl rfl (Nat.le_of_ble_eq_true rfl) (Nat.le_of_ble_eq_true rfl) ⟨by decide, by decide⟩ ?_
                refine n_foresee hW hG hs hS hw (p := p) (d := c / 16 % 4) (t := t) (by omega) (by simpa using h33) (by omega) (by omega) h77 hH (hHb _) (hWt.1 (2 * p) (by omega)) (hwo _) hrb hnb hri hno (fun M1 F1 O1 => ?_)
                show WP _ _ 94 _ [] _ _
                refine xi_iload dX10_look_94 rfl ?_
                refine xi_bipush (v := 16) dX10_look_96 (by decide) ?_
                refine xe_irem dX10_look_98 (by decide) (v := nI (c % 16)) (pk_rem (d := 16) (by omega) (by omega) (by omega)) ?_
                refine xi_iconst (v := 3) dX10_look_99 rfl ?_
                refine xn_icmp_ne (c % 16) 3 111 dX10_look_100 (by decide) rfl rfl (by omega) (by omega) (fun h100 => ?_) (fun h100 => ?_)
                · skip
                  have eF : mforO G S p c (H (t * 4 + p)) risk now (w.1 (2 * p)) = maddO (w.1 (2 * p)) (mshotC G S p (c / 16 % 4)) (decide (0 < H (t * 4 + p))) risk now := by rw [mforO, if_pos h61]
                  have fw1 : Fw M M1 := F1.fw
                  refine nl_gap (M := M1) (o := w.1 (2 * p + 1)) (lt := w.2.1 p) (lg := w.2.2 p) (hlt2 p (Nat.le_refl p)) (hlg2 p) (by omega) ht ((hWt.1 (2 * p + 1) (by omega)).fq F1 (by omega)) (hwo _) hrb hnb (by rw [F1.1]; exact hri) (by rw [F1.1]; exact hno) (by rw [F1.2.1 16 (by decide) (by decide) (by decide)]; exact hWt.2.1 p (by omega)) (by rw [F1.2.1 17 (by decide) (by decide) (by decide)]; exact hWt.2.2 p (by omega)) (fun M2 f2 F2 O2 k2 => ?_)
                  have em : mlk G S A H t risk now p w = (va_up (va_up w.1 (2 * p) (mforO G S p c (H (t * 4 + p)) risk now (w.1 (2 * p)))) (2 * p + 1) (mgapO (w.1 (2 * p + 1)) (w.2.1 p) (w.2.2 p) t risk now), va_up w.2.1 p (some t), va_up w.2.2 p (mgapG (w.2.1 p) t)) := by
                    unfold mlk
                    rw [← hc]
                    exact if_pos ⟨by simpa using h33, h49⟩
                  have hWt2 : MWt (mlk G S A H t risk now p w) M2 := by rw [em, eF]; exact MWt.step hWt F1 O1 F2 O2 k2.1 k2.2
                  have fw2 : Fw M M2 := fw1.tr f2
                  refine xi_iinc (v := nI (p + 1)) (lv' := [some (.ref 0), some (.int (nI t)), some (.int (nI s)), some (.int (nI (p + 1))), none, none]) dX10_look_191 rfl (xinc p) (by decide) rfl ?_
                  refine xi_goto 7 dX10_look_194 (by decide) ?_
                  refine ih (p + 1) (mlk G S A H t risk now p w) M2 (by omega) (hG.fw fw2) (hS.fw hW fw2) (hA.fw fw2) (hH.fw fw2) hWt2 ?_ ?_ ?_ (by rw [fw2.1]; exact hri) (by rw [fw2.1]; exact hno) (fun M99 f99 w99 => h M99 (fw2.tr f99) w99)
                  · intro k
                    rw [em]
                    show wO (va_up (va_up w.1 (2 * p) _) (2 * p + 1) _ k)
                    by_cases e1 : k = 2 * p + 1
                    · rw [e1, up_s]; exact wO_gap (hwo _) hnb
                    · rw [up_n e1]
                      by_cases e2 : k = 2 * p
                      · rw [e2, up_s]; exact wO_for (hwo _) hnb
                      · rw [up_n e2]; exact hwo k
                  · intro q hq y
                    rw [em]
                    show va_up w.2.1 p (some t) q = some y → _
                    rw [up_n (by omega)]
                    exact hlt2 q (by omega) y
                  · intro q y
                    rw [em]
                    show va_up w.2.2 p (mgapG (w.2.1 p) t) q = some y → _
                    by_cases e1 : q = p
                    · rw [e1, up_s]
                      cases e2 : w.2.1 p with
                      | none => intro z; cases z
                      | some x => intro z; cases z; omega
                    · rw [up_n e1]; exact hlg2 q y
                · omega
          · skip
            refine xi_goto 191 dX10_look_52 (by decide) ?_
            refine xi_iinc (v := nI (p + 1)) (lv' := [some (.ref 0), some (.int (nI t)), some (.int (nI s)), some (.int (nI (p + 1))), some (.int (nI c)), none]) dX10_look_191 rfl (xinc p) (by decide) rfl ?_
            refine xi_goto 7 dX10_look_194 (by decide) ?_
            have em : mlk G S A H t risk now p w = w := by
              unfold mlk
              rw [← hc]
              exact if_neg (fun q => q.2 h49)
            refine xi_drop [true, true, true, true, false, false] rfl ?_
            exact ih (p + 1) w M (by omega) hG hS hA hH hWt hwo (fun q hq => hlt2 q (by omega)) hlg2 hri hno (fun M99 f99 w99 => h M99 f99 (by rw [em]; exact w99))

set_option maxHeartbeats 4000000 in
set_option maxRecDepth 100000 in
theorem n_look {G : xG} {S : xS} {M : xM} {s t risk now : Nat} {A H : Nat → Nat} {w : xw} {Q : Option Value → xM → Prop} (hW : wG G) (hs : s ≤ 56000) (ht : t < 500) (es : s = 112 * t) (hG : MG G M) (hS : RM G S M s) (hw : wS G S) (wA_ : wA A) (hA : MA A M) (hH : MH H M) (hHb : ∀ i, H i ≤ 16) (hWt : MWt w M) (hww : ww w t) (hrb : risk ≤ 1048576) (hnb : now ≤ 500) (hri : M.1 0 12 = nI risk) (hno : M.1 0 10 = nI now) (h : ∀ M2, Fw M M2 → MWt (mlkL G S A H t risk now 0 (gP G) w) M2 → Q none M2) : WP shM mX10_look 0 [some (.ref 0), some (.int (nI t)), none, none, none, none] [] M Q := by
  obtain ⟨b1, b2, b3, b4, b5, b6, b7, b8, b9, wmap, wlink, wk0, wk1, b10, b11, wword⟩ := id hW
  refine xi_bipush (v := 112) dX10_look_0 (by decide) ?_
  refine xi_iload_n dX10_look_2 rfl ?_
  refine xe_imul dX10_look_3 (v := nI s) ((pk_mul 112 t).trans (congrArg nI es.symm)) ?_
  refine xi_istore_n (lv' := [some (.ref 0), some (.int (nI t)), some (.int (nI s)), none, none, none]) dX10_look_4 (by decide) rfl ?_
  refine xi_iconst (v := 0) dX10_look_5 rfl ?_
  refine xi_istore_n (lv' := [some (.ref 0), some (.int (nI t)), some (.int (nI s)), some (.int 0), none, none]) dX10_look_6 (by decide) rfl ?_
  exact nl_look hW hs ht hw wA_ hHb hrb hnb (gP G) 0 w M (by omega) hG hS hA hH hWt hww.1 (fun q _ => hww.2.1 q) hww.2.2.2 hri hno h

