/-! the watch: trials by player and kind, the last tick of an act and the last gap -/
abbrev xw : Type := (Nat → xO) × (Nat → Option Nat) × (Nat → Option Nat)
def mgapG (lt : Option Nat) (t : Nat) : Option Nat := match lt with
  | none => none
  | some u => some (t - u)
def mgapO (o : xO) (lt lg : Option Nat) (t risk now : Nat) : xO := match mgapG lt t, lg with
  | some g, some h => madd o 262144 (decide (g = h)) risk now
  | _, _ => o
def mforO (G : xG) (S : xS) (p c h risk now : Nat) (o : xO) : xO :=
  if c % 16 = 2 then maddO o (mshotC G S p (c / 16 % 4)) (decide (0 < h)) risk now
  else if c % 16 = 3 then maddO o (mwordC G S p (c / 16 % 4)) (mwn G S p (c / 16 % 4) (c / 64 % 16)) risk now else o
def mlk (G : xG) (S : xS) (A H : Nat → Nat) (t risk now p : Nat) (w : xw) : xw :=
  if 0 < sL S p ∧ ¬ A (t * 4 + p) % 16 = 0 then
    (va_up (va_up w.1 (2 * p) (mforO G S p (A (t * 4 + p)) (H (t * 4 + p)) risk now (w.1 (2 * p)))) (2 * p + 1) (mgapO (w.1 (2 * p + 1)) (w.2.1 p) (w.2.2 p) t risk now), va_up w.2.1 p (some t), va_up w.2.2 p (mgapG (w.2.1 p) t))
  else w
def mlkL (G : xG) (S : xS) (A H : Nat → Nat) (t risk now : Nat) : Nat → Nat → xw → xw
  | _, 0, w => w
  | p, f + 1, w => mlkL G S A H t risk now (p + 1) f (mlk G S A H t risk now p w)
/-- well kept, before a look at tick t -/
def ww (w : xw) (t : Nat) : Prop := (∀ k, wO (w.1 k)) ∧ (∀ p u, w.2.1 p = some u → u < t) ∧ (∀ p, w.2.1 p = none → w.2.2 p = none) ∧ ∀ p g, w.2.2 p = some g → g < 500
/-- in the model's cells -/
def MWt (w : xw) (M : xM) : Prop := (∀ k, k < 8 → MO (w.1 k) M k) ∧ (∀ p, p < 4 → M.2.1 16 p = xo (w.2.1 p)) ∧ ∀ p, p < 4 → M.2.1 17 p = xo (w.2.2 p)
/-- changed in the watch alone -/
def Fw (M M2 : xM) : Prop := M2.1 = M.1 ∧ (∀ a, ¬ a = 12 → ¬ a = 13 → ¬ a = 14 → ¬ a = 16 → ¬ a = 17 → M2.2.1 a = M.2.1 a) ∧ ∀ a, ¬ a = 15 → M2.2.2 a = M.2.2 a
theorem Fw.rf {M : xM} : Fw M M := ⟨rfl, fun _ _ _ _ _ _ => rfl, fun _ _ => rfl⟩
theorem Fw.tr {M M1 M2 : xM} (h : Fw M M1) (h2 : Fw M1 M2) : Fw M M2 := ⟨h2.1.trans h.1, fun a q1 q2 q3 q4 q5 => (h2.2.1 a q1 q2 q3 q4 q5).trans (h.2.1 a q1 q2 q3 q4 q5), fun a q => (h2.2.2 a q).trans (h.2.2 a q)⟩
theorem FQ.fw {k : Nat} {M M2 : xM} (h : FQ k M M2) : Fw M M2 := ⟨h.1, fun a q1 q2 q3 _ _ => h.2.1 a q1 q2 q3, h.2.2.2.1⟩
theorem MO.fq {o : xO} {M M2 : xM} {k j : Nat} (h : MO o M j) (f : FQ k M M2) (q : ¬ j = k) : MO o M2 j := ⟨fun i hi => (f.2.2.2.2 _ (by omega)).trans (h.1 i hi), ((f.2.2.1 j q).1).trans h.2.1, ((f.2.2.1 j q).2.1).trans h.2.2.1, ((f.2.2.1 j q).2.2).trans h.2.2.2⟩
theorem MG.fw {G : xG} {M M2 : xM} (h : MG G M) (f : Fw M M2) : MG G M2 := h.keep (by rw [f.1]) (fun a ha => f.2.1 a (by omega) (by omega) (by omega) (by omega) (by omega))
theorem RM.fw {G : xG} {S : xS} {M M2 : xM} {s : Nat} (hW : wG G) (h : RM G S M s) (f : Fw M M2) : RM G S M2 s := h.mv hW (fun j _ => by rw [f.2.1 5 (by decide) (by decide) (by decide) (by decide) (by decide)])
theorem MA.fw {A : Nat → Nat} {M M2 : xM} (h : MA A M) (f : Fw M M2) : MA A M2 := fun i hi => by rw [f.2.1 6 (by decide) (by decide) (by decide) (by decide) (by decide)]; exact h i hi
theorem MH.fw {H : Nat → Nat} {M M2 : xM} (h : MH H M) (f : Fw M M2) : MH H M2 := fun i hi => by rw [f.2.1 8 (by decide) (by decide) (by decide) (by decide) (by decide)]; exact h i hi
theorem Fw.xa {a : Nat} {M : xM} {f : Nat → Int32} (h : a = 16 ∨ a = 17) : Fw M (xa M a f) := ⟨rfl, fun b _ _ _ q1 q2 => xa_n (by omega), fun _ _ => rfl⟩
theorem MO.xa {o : xO} {M : xM} {k a : Nat} {f : Nat → Int32} (h : MO o M k) (q : a = 16 ∨ a = 17) : MO o (xa M a f) k := ⟨h.1, by rw [xa_n (by omega)]; exact h.2.1, by rw [xa_n (by omega)]; exact h.2.2.1, by rw [xa_n (by omega)]; exact h.2.2.2⟩
theorem wO_gap {o : xO} {lt lg : Option Nat} {t risk now : Nat} (h : wO o) (hn : now ≤ 500) : wO (mgapO o lt lg t risk now) := by
  unfold mgapO
  split
  · exact wO_add h (by decide) hn
  · exact h
set_option maxHeartbeats 4000000 in
set_option maxRecDepth 100000 in
theorem nl_gapN {M : xM} {Q : Option Value → xM → Prop} {o : xO} {p c t s risk now : Nat} {lg : Option Nat} (hp : p < 4) (ht : t < 500) (hO : MO o M (2 * p + 1)) (hwo : wO o) (hrb : risk ≤ 1048576) (hnb : now ≤ 500) (hri : M.1 0 12 = nI risk) (hno : M.1 0 10 = nI now) (hlt : M.2.1 16 p = xo none) (hlg : M.2.1 17 p = xo lg) (h : ∀ M2, Fw M M2 → ((∀ k, ¬ k = 2 * p + 1 → M2.2.1 12 k = M.2.1 12 k) ∧ (∀ k, ¬ k = 2 * p + 1 → M2.2.1 13 k = M.2.1 13 k) ∧ (∀ k, ¬ k = 2 * p + 1 → M2.2.1 14 k = M.2.1 14 k) ∧ (∀ i, (i < 65 * (2 * p + 1) ∨ 65 * (2 * p + 1) + 65 ≤ i) → M2.2.2 15 i = M.2.2 15 i) ∧ (∀ k, ¬ k = p → M2.2.1 16 k = M.2.1 16 k) ∧ ∀ k, ¬ k = p → M2.2.1 17 k = M.2.1 17 k) → MO (mgapO o none lg t risk now) M2 (2 * p + 1) → (M2.2.1 16 p = xo (some t) ∧ M2.2.1 17 p = xo (mgapG none t)) → WP shM mX10_look 191 [some (.ref 0), some (.int (nI t)), some (.int (nI s)), some (.int (nI p)), none, none] [] M2 Q) : WP shM mX10_look 111 [some (.ref 0), some (.int (nI t)), some (.int (nI s)), some (.int (nI p)), some (.int (nI c)), none] [] M Q := by
  refine xi_aload_n dX10_look_111 rfl ?_
  refine xi_getR dX10_look_112 fgX10_74 mm0 rfl ?_
  refine xi_iload_n dX10_look_115 rfl ?_
  refine xe_iald (v := xo none) p dX10_look_116 mm16 (by decide) rfl (by omega) hlt ?_
  refine xi_if_ge 124 dX10_look_117 (by decide) (fun z => absurd z (by decide)) (fun _ => ?_)
  refine xi_iconst (v := (-1)) dX10_look_120 rfl ?_
  refine xi_goto 132 dX10_look_121 (by decide) ?_
  refine xi_istore (lv' := [some (.ref 0), some (.int (nI t)), some (.int (nI s)), some (.int (nI p)), some (.int (nI c)), some (.int (-1))]) dX10_look_132 (by decide) rfl ?_
  refine xi_iload dX10_look_134 rfl ?_
  refine xi_if_lt 176 dX10_look_136 (by decide) (fun h136 => ?_) (fun h136 => ?_)
  · skip
    refine xi_aload_n dX10_look_176 rfl ?_
    refine xi_getR dX10_look_177 fgX10_74 mm0 rfl ?_
    refine xi_iload_n dX10_look_180 rfl ?_
    refine xi_iload_n dX10_look_181 rfl ?_
    refine xe_iast p dX10_look_182 mm16 (by decide) rfl (by omega) ?_
    generalize eM3 : (xa M 16 (upd (M.2.1 16) p (nI t))) = M3
    have k16 : M3.2.1 16 p = xo (some t) := by rw [← eM3, xa_s, upd_s]; rfl
    refine xi_aload_n dX10_look_183 rfl ?_
    refine xi_getR dX10_look_184 fgX10_77 mm0 rfl ?_
    refine xi_iload_n dX10_look_187 rfl ?_
    refine xi_iload dX10_look_188 rfl ?_
    refine xe_iast p dX10_look_190 mm17 (by decide) rfl (by omega) ?_
    refine xi_drop [true, true, true, true, false, false] rfl ?_
    have eO : mgapO o none lg t risk now = o := by cases lg <;> rfl
    rw [eO] at h
    refine h _ ?_ ?_ ?_ ?_
    · exact (Fw.rf.tr (by rw [← eM3]; exact Fw.xa (Or.inl rfl))).tr (Fw.xa (Or.inr rfl))
    · exact ⟨fun k q => by rw [xa_n (by decide), ← eM3, xa_n (by decide)], fun k q => by rw [xa_n (by decide), ← eM3, xa_n (by decide)], fun k q => by rw [xa_n (by decide), ← eM3, xa_n (by decide)], fun i q => by rw [← eM3]; rfl, fun k q => by rw [xa_n (by decide), ← eM3, xa_s, upd_n q], fun k q => by rw [xa_s, upd_n q, ← eM3, xa_n (by decide)]⟩
    · exact MO.xa (by rw [← eM3]; exact MO.xa hO (Or.inl rfl)) (Or.inr rfl)
    · exact ⟨by rw [xa_n (by decide)]; exact k16, by rw [xa_s, upd_s]; rfl⟩
  · skip
    refine xi_aload_n dX10_look_139 rfl ?_
    refine xi_getR dX10_look_140 fgX10_77 mm0 rfl ?_
    refine xi_iload_n dX10_look_143 rfl ?_
    refine xe_iald (v := xo lg) p dX10_look_144 mm17 (by decide) rfl (by omega) hlg ?_
    refine xo_if_lt lg 176 dX10_look_145 (by decide) rfl (fun _ _ => by omega) (fun h145 => ?_) (fun k145 h145 => ?_)
    · subst h145
      refine xi_aload_n dX10_look_176 rfl ?_
      refine xi_getR dX10_look_177 fgX10_74 mm0 rfl ?_
      refine xi_iload_n dX10_look_180 rfl ?_
      refine xi_iload_n dX10_look_181 rfl ?_
      refine xe_iast p dX10_look_182 mm16 (by decide) rfl (by omega) ?_
      generalize eM3 : (xa M 16 (upd (M.2.1 16) p (nI t))) = M3
      have k16 : M3.2.1 16 p = xo (some t) := by rw [← eM3, xa_s, upd_s]; rfl
      refine xi_aload_n dX10_look_183 rfl ?_
      refine xi_getR dX10_look_184 fgX10_77 mm0 rfl ?_
      refine xi_iload_n dX10_look_187 rfl ?_
      refine xi_iload dX10_look_188 rfl ?_
      refine xe_iast p dX10_look_190 mm17 (by decide) rfl (by omega) ?_
      refine xi_drop [true, true, true, true, false, false] rfl ?_
      have eO : mgapO o none lg t risk now = o := by cases lg <;> rfl
      rw [eO] at h
      refine h _ ?_ ?_ ?_ ?_
      · exact (Fw.rf.tr (by rw [← eM3]; exact Fw.xa (Or.inl rfl))).tr (Fw.xa (Or.inr rfl))
      · exact ⟨fun k q => by rw [xa_n (by decide), ← eM3, xa_n (by decide)], fun k q => by rw [xa_n (by decide), ← eM3, xa_n (by decide)], fun k q => by rw [xa_n (by decide), ← eM3, xa_n (by decide)], fun i q => by rw [← eM3]; rfl, fun k q => by rw [xa_n (by decide), ← eM3, xa_s, upd_n q], fun k q => by rw [xa_s, upd_n q, ← eM3, xa_n (by decide)]⟩
      · exact MO.xa (by rw [← eM3]; exact MO.xa hO (Or.inl rfl)) (Or.inr rfl)
      · exact ⟨by rw [xa_n (by decide)]; exact k16, by rw [xa_s, upd_s]; rfl⟩
    · subst h145
      refine xi_aload_n dX10_look_148 rfl ?_
      refine xi_iconst (v := 2) dX10_look_149 rfl ?_
      refine xi_iload_n dX10_look_150 rfl ?_
      refine xe_imul dX10_look_151 (v := nI (2 * p)) (pk_mul 2 p) ?_
      refine xi_iconst (v := 1) dX10_look_152 rfl ?_
      refine xe_iadd dX10_look_153 (v := nI (2 * p + 1)) (nI_add (2 * p) 1) ?_
      refine xi_ldc2 (v := 262144) dX10_look_154 kcX10_264 ?_
      refine xtopj (y := nJ 262144) rfl ?_
      refine xi_iload dX10_look_157 rfl ?_
      refine xi_aload_n dX10_look_159 rfl ?_
      refine xi_getR dX10_look_160 fgX10_77 mm0 rfl ?_
      refine xi_iload_n dX10_look_163 rfl ?_
      refine xat 164 rfl ?_
      refine xe_iald (v := xo lg) p dX10_look_164 mm17 (by decide) rfl (by omega) hlg ?_
      refine xi_icmp_ne 172 dX10_look_165 (by decide) (fun h165 => ?_) (fun h165 => ?_)
      · skip
        refine xi_iconst (v := 0) dX10_look_172 rfl ?_
        refine xi_callV [.int (nI (2 * p + 1)), .long (nJ 262144), .int 0] [] dX10_look_173 zX10_tried mlX10_266 mm0 rfl rfl rfl rfl rfl (Nat.le_of_ble_eq_true rfl) (Nat.le_of_ble_eq_true rfl) ⟨by decide, by decide⟩ ?_
        refine n_tried (o := o) (k := 2 * p + 1) (c := 262144) (b := false) (by omega) hO hwo (by decide) hrb hnb hri hno (fun M2 F2 O2 => ?_)
        show WP _ _ 176 _ [] _ _
        refine xi_aload_n dX10_look_176 rfl ?_
        refine xi_getR dX10_look_177 fgX10_74 mm0 rfl ?_
        refine xi_iload_n dX10_look_180 rfl ?_
        refine xi_iload_n dX10_look_181 rfl ?_
        refine xe_iast p dX10_look_182 mm16 (by decide) rfl (by omega) ?_
        generalize eM3 : (xa M2 16 (upd (M2.2.1 16) p (nI t))) = M3
        have k16 : M3.2.1 16 p = xo (some t) := by rw [← eM3, xa_s, upd_s]; rfl
        refine xi_aload_n dX10_look_183 rfl ?_
        refine xi_getR dX10_look_184 fgX10_77 mm0 rfl ?_
        refine xi_iload_n dX10_look_187 rfl ?_
        refine xi_iload dX10_look_188 rfl ?_
        refine xe_iast p dX10_look_190 mm17 (by decide) rfl (by omega) ?_
        refine xi_drop [true, true, true, true, false, false] rfl ?_
        have eO : mgapO o none lg t risk now = madd o 262144 false risk now := by show madd o 262144 (decide (t - u = v)) risk now = _; rw [show decide (t - u = v) = false by simp; omega]
        rw [eO] at h
        refine h _ ?_ ?_ ?_ ?_
        · exact (F2.fw.tr (by rw [← eM3]; exact Fw.xa (Or.inl rfl))).tr (Fw.xa (Or.inr rfl))
        · exact ⟨fun k q => by rw [xa_n (by decide), ← eM3, xa_n (by decide)]; exact (F2.2.2.1 k q).1, fun k q => by rw [xa_n (by decide), ← eM3, xa_n (by decide)]; exact (F2.2.2.1 k q).2.1, fun k q => by rw [xa_n (by decide), ← eM3, xa_n (by decide)]; exact (F2.2.2.1 k q).2.2, fun i q => by rw [← eM3]; exact F2.2.2.2.2 i q, fun k q => by rw [xa_n (by decide), ← eM3, xa_s, upd_n q, F2.2.1 16 (by decide) (by decide) (by decide)], fun k q => by rw [xa_s, upd_n q, ← eM3, xa_n (by decide), F2.2.1 17 (by decide) (by decide) (by decide)]⟩
        · exact MO.xa (by rw [← eM3]; exact MO.xa O2 (Or.inl rfl)) (Or.inr rfl)
        · exact ⟨by rw [xa_n (by decide)]; exact k16, by rw [xa_s, upd_s]; rfl⟩
      · skip
        refine xi_iconst (v := 1) dX10_look_168 rfl ?_
        refine xi_goto 173 dX10_look_169 (by decide) ?_
        refine xi_callV [.int (nI (2 * p + 1)), .long (nJ 262144), .int 1] [] dX10_look_173 zX10_tried mlX10_266 mm0 rfl rfl rfl rfl rfl (Nat.le_of_ble_eq_true rfl) (Nat.le_of_ble_eq_true rfl) ⟨by decide, by decide⟩ ?_
        refine n_tried (o := o) (k := 2 * p + 1) (c := 262144) (b := true) (by omega) hO hwo (by decide) hrb hnb hri hno (fun M2 F2 O2 => ?_)
        show WP _ _ 176 _ [] _ _
        refine xi_aload_n dX10_look_176 rfl ?_
        refine xi_getR dX10_look_177 fgX10_74 mm0 rfl ?_
        refine xi_iload_n dX10_look_180 rfl ?_
        refine xi_iload_n dX10_look_181 rfl ?_
        refine xe_iast p dX10_look_182 mm16 (by decide) rfl (by omega) ?_
        generalize eM3 : (xa M2 16 (upd (M2.2.1 16) p (nI t))) = M3
        have k16 : M3.2.1 16 p = xo (some t) := by rw [← eM3, xa_s, upd_s]; rfl
        refine xi_aload_n dX10_look_183 rfl ?_
        refine xi_getR dX10_look_184 fgX10_77 mm0 rfl ?_
        refine xi_iload_n dX10_look_187 rfl ?_
        refine xi_iload dX10_look_188 rfl ?_
        refine xe_iast p dX10_look_190 mm17 (by decide) rfl (by omega) ?_
        refine xi_drop [true, true, true, true, false, false] rfl ?_
        have eO : mgapO o none lg t risk now = madd o 262144 true risk now := by show madd o 262144 (decide (t - u = v)) risk now = _; rw [show decide (t - u = v) = true by simp; omega]
        rw [eO] at h
        refine h _ ?_ ?_ ?_ ?_
        · exact (F2.fw.tr (by rw [← eM3]; exact Fw.xa (Or.inl rfl))).tr (Fw.xa (Or.inr rfl))
        · exact ⟨fun k q => by rw [xa_n (by decide), ← eM3, xa_n (by decide)]; exact (F2.2.2.1 k q).1, fun k q => by rw [xa_n (by decide), ← eM3, xa_n (by decide)]; exact (F2.2.2.1 k q).2.1, fun k q => by rw [xa_n (by decide), ← eM3, xa_n (by decide)]; exact (F2.2.2.1 k q).2.2, fun i q => by rw [← eM3]; exact F2.2.2.2.2 i q, fun k q => by rw [xa_n (by decide), ← eM3, xa_s, upd_n q, F2.2.1 16 (by decide) (by decide) (by decide)], fun k q => by rw [xa_s, upd_n q, ← eM3, xa_n (by decide), F2.2.1 17 (by decide) (by decide) (by decide)]⟩
        · exact MO.xa (by rw [← eM3]; exact MO.xa O2 (Or.inl rfl)) (Or.inr rfl)
        · exact ⟨by rw [xa_n (by decide)]; exact k16, by rw [xa_s, upd_s]; rfl⟩

set_option maxHeartbeats 4000000 in
set_option maxRecDepth 100000 in
theorem nl_gapS {M : xM} {Q : Option Value → xM → Prop} {o : xO} {p c t s risk now : Nat} {u : Nat} (hu : u < t) (hp : p < 4) (ht : t < 500) (hO : MO o M (2 * p + 1)) (hwo : wO o) (hrb : risk ≤ 1048576) (hnb : now ≤ 500) (hri : M.1 0 12 = nI risk) (hno : M.1 0 10 = nI now) (hlt : M.2.1 16 p = xo (some u)) (hlg : M.2.1 17 p = xo none) (h : ∀ M2, Fw M M2 → ((∀ k, ¬ k = 2 * p + 1 → M2.2.1 12 k = M.2.1 12 k) ∧ (∀ k, ¬ k = 2 * p + 1 → M2.2.1 13 k = M.2.1 13 k) ∧ (∀ k, ¬ k = 2 * p + 1 → M2.2.1 14 k = M.2.1 14 k) ∧ (∀ i, (i < 65 * (2 * p + 1) ∨ 65 * (2 * p + 1) + 65 ≤ i) → M2.2.2 15 i = M.2.2 15 i) ∧ (∀ k, ¬ k = p → M2.2.1 16 k = M.2.1 16 k) ∧ ∀ k, ¬ k = p → M2.2.1 17 k = M.2.1 17 k) → MO (mgapO o (some u) none t risk now) M2 (2 * p + 1) → (M2.2.1 16 p = xo (some t) ∧ M2.2.1 17 p = xo (mgapG (some u) t)) → WP shM mX10_look 191 [some (.ref 0), some (.int (nI t)), some (.int (nI s)), some (.int (nI p)), none, none] [] M2 Q) : WP shM mX10_look 111 [some (.ref 0), some (.int (nI t)), some (.int (nI s)), some (.int (nI p)), some (.int (nI c)), none] [] M Q := by
  refine xi_aload_n dX10_look_111 rfl ?_
  refine xi_getR dX10_look_112 fgX10_74 mm0 rfl ?_
  refine xi_iload_n dX10_look_115 rfl ?_
  refine xe_iald (v := nI u) p dX10_look_116 mm16 (by decide) rfl (by omega) hlt ?_
  refine xn_if_ge u 124 dX10_look_117 (by decide) rfl (by omega) ?_
  refine xi_iload_n dX10_look_124 rfl ?_
  refine xi_aload_n dX10_look_125 rfl ?_
  refine xi_getR dX10_look_126 fgX10_74 mm0 rfl ?_
  refine xi_iload_n dX10_look_129 rfl ?_
  refine xe_iald (v := nI u) p dX10_look_130 mm16 (by decide) rfl (by omega) hlt ?_
  refine xe_isub dX10_look_131 (v := nI (t - u)) (pk_sub (a := t) (b := u) (by omega)) ?_
  refine xat 132 rfl ?_
  refine xi_istore (lv' := [some (.ref 0), some (.int (nI t)), some (.int (nI s)), some (.int (nI p)), some (.int (nI c)), some (.int (nI (t - u)))]) dX10_look_132 (by decide) rfl ?_
  refine xi_iload dX10_look_134 rfl ?_
  refine xn_if_lt (t - u) 176 dX10_look_136 (by decide) rfl (by omega) ?_
  refine xi_aload_n dX10_look_139 rfl ?_
  refine xi_getR dX10_look_140 fgX10_77 mm0 rfl ?_
  refine xi_iload_n dX10_look_143 rfl ?_
  refine xe_iald (v := xo none) p dX10_look_144 mm17 (by decide) rfl (by omega) hlg ?_
  refine xi_if_lt 176 dX10_look_145 (by decide) (fun _ => ?_) (fun z => absurd (show xo none < 0 by decide) z)
  refine xi_aload_n dX10_look_176 rfl ?_
  refine xi_getR dX10_look_177 fgX10_74 mm0 rfl ?_
  refine xi_iload_n dX10_look_180 rfl ?_
  refine xi_iload_n dX10_look_181 rfl ?_
  refine xat 182 rfl ?_
  refine xe_iast p dX10_look_182 mm16 (by decide) rfl (by omega) ?_
  generalize eM3 : (xa M 16 (upd (M.2.1 16) p (nI t))) = M3
  have k16 : M3.2.1 16 p = xo (some t) := by rw [← eM3, xa_s, upd_s]; rfl
  refine xi_aload_n dX10_look_183 rfl ?_
  refine xi_getR dX10_look_184 fgX10_77 mm0 rfl ?_
  refine xi_iload_n dX10_look_187 rfl ?_
  refine xi_iload dX10_look_188 rfl ?_
  refine xe_iast p dX10_look_190 mm17 (by decide) rfl (by omega) ?_
  refine xi_drop [true, true, true, true, false, false] rfl ?_
  have eO : mgapO o (some u) none t risk now = o := rfl
  rw [eO] at h
  refine h _ ?_ ?_ ?_ ?_
  · exact (Fw.rf.tr (by rw [← eM3]; exact Fw.xa (Or.inl rfl))).tr (Fw.xa (Or.inr rfl))
  · exact ⟨fun k q => by rw [xa_n (by decide), ← eM3, xa_n (by decide)], fun k q => by rw [xa_n (by decide), ← eM3, xa_n (by decide)], fun k q => by rw [xa_n (by decide), ← eM3, xa_n (by decide)], fun i q => by rw [← eM3]; rfl, fun k q => by rw [xa_n (by decide), ← eM3, xa_s, upd_n q], fun k q => by rw [xa_s, upd_n q, ← eM3, xa_n (by decide)]⟩
  · exact MO.xa (by rw [← eM3]; exact MO.xa hO (Or.inl rfl)) (Or.inr rfl)
  · exact ⟨by rw [xa_n (by decide)]; exact k16, by rw [xa_s, upd_s]; rfl⟩

set_option maxHeartbeats 4000000 in
set_option maxRecDepth 100000 in
theorem nl_gapT {M : xM} {Q : Option Value → xM → Prop} {o : xO} {p c t s risk now : Nat} {u v : Nat} (hu : u < t) (hv : v < 500) (hp : p < 4) (ht : t < 500) (hO : MO o M (2 * p + 1)) (hwo : wO o) (hrb : risk ≤ 1048576) (hnb : now ≤ 500) (hri : M.1 0 12 = nI risk) (hno : M.1 0 10 = nI now) (hlt : M.2.1 16 p = xo (some u)) (hlg : M.2.1 17 p = xo (some v)) (h : ∀ M2, Fw M M2 → ((∀ k, ¬ k = 2 * p + 1 → M2.2.1 12 k = M.2.1 12 k) ∧ (∀ k, ¬ k = 2 * p + 1 → M2.2.1 13 k = M.2.1 13 k) ∧ (∀ k, ¬ k = 2 * p + 1 → M2.2.1 14 k = M.2.1 14 k) ∧ (∀ i, (i < 65 * (2 * p + 1) ∨ 65 * (2 * p + 1) + 65 ≤ i) → M2.2.2 15 i = M.2.2 15 i) ∧ (∀ k, ¬ k = p → M2.2.1 16 k = M.2.1 16 k) ∧ ∀ k, ¬ k = p → M2.2.1 17 k = M.2.1 17 k) → MO (mgapO o (some u) (some v) t risk now) M2 (2 * p + 1) → (M2.2.1 16 p = xo (some t) ∧ M2.2.1 17 p = xo (mgapG (some u) t)) → WP shM mX10_look 191 [some (.ref 0), some (.int (nI t)), some (.int (nI s)), some (.int (nI p)), none, none] [] M2 Q) : WP shM mX10_look 111 [some (.ref 0), some (.int (nI t)), some (.int (nI s)), some (.int (nI p)), some (.int (nI c)), none] [] M Q := by
  refine xi_aload_n dX10_look_111 rfl ?_
  refine xi_getR dX10_look_112 fgX10_74 mm0 rfl ?_
  refine xi_iload_n dX10_look_115 rfl ?_
  refine xe_iald (v := nI u) p dX10_look_116 mm16 (by decide) rfl (by omega) hlt ?_
  refine xn_if_ge u 124 dX10_look_117 (by decide) rfl (by omega) ?_
  refine xi_iload_n dX10_look_124 rfl ?_
  refine xi_aload_n dX10_look_125 rfl ?_
  refine xi_getR dX10_look_126 fgX10_74 mm0 rfl ?_
  refine xi_iload_n dX10_look_129 rfl ?_
  refine xe_iald (v := nI u) p dX10_look_130 mm16 (by decide) rfl (by omega) hlt ?_
  refine xe_isub dX10_look_131 (v := nI (t - u)) (pk_sub (a := t) (b := u) (by omega)) ?_
  refine xat 132 rfl ?_
  refine xi_istore (lv' := [some (.ref 0), some (.int (nI t)), some (.int (nI s)), some (.int (nI p)), some (.int (nI c)), some (.int (nI (t - u)))]) dX10_look_132 (by decide) rfl ?_
  refine xi_iload dX10_look_134 rfl ?_
  refine xn_if_lt (t - u) 176 dX10_look_136 (by decide) rfl (by omega) ?_
  refine xi_aload_n dX10_look_139 rfl ?_
  refine xi_getR dX10_look_140 fgX10_77 mm0 rfl ?_
  refine xi_iload_n dX10_look_143 rfl ?_
  refine xe_iald (v := nI v) p dX10_look_144 mm17 (by decide) rfl (by omega) hlg ?_
  refine xn_if_lt v 176 dX10_look_145 (by decide) rfl (by omega) ?_
  refine xi_aload_n dX10_look_148 rfl ?_
  refine xi_iconst (v := 2) dX10_look_149 rfl ?_
  refine xi_iload_n dX10_look_150 rfl ?_
  refine xe_imul dX10_look_151 (v := nI (2 * p)) (pk_mul 2 p) ?_
  refine xat 152 rfl ?_
  refine xi_iconst (v := 1) dX10_look_152 rfl ?_
  refine xe_iadd dX10_look_153 (v := nI (2 * p + 1)) (nI_add (2 * p) 1) ?_
  refine xi_ldc2 (v := 262144) dX10_look_154 kcX10_264 ?_
  refine xtopj (y := nJ 262144) rfl ?_
  refine xi_iload dX10_look_157 rfl ?_
  refine xi_aload_n dX10_look_159 rfl ?_
  refine xi_getR dX10_look_160 fgX10_77 mm0 rfl ?_
  refine xi_iload_n dX10_look_163 rfl ?_
  refine xe_iald (v := nI v) p dX10_look_164 mm17 (by decide) rfl (by omega) hlg ?_
  refine xn_icmp_ne (t - u) v 172 dX10_look_165 (by decide) rfl rfl (by omega) (by omega) (fun h165 => ?_) (fun h165 => ?_)
  · skip
    refine xi_iconst (v := 0) dX10_look_172 rfl ?_
    refine xi_callV [.int (nI (2 * p + 1)), .long (nJ 262144), .int 0] [] dX10_look_173 zX10_tried mlX10_266 mm0 rfl rfl rfl rfl rfl (Nat.le_of_ble_eq_true rfl) (Nat.le_of_ble_eq_true rfl) ⟨by decide, by decide⟩ ?_
    refine n_tried (o := o) (k := 2 * p + 1) (c := 262144) (b := false) (by omega) hO hwo (by decide) hrb hnb hri hno (fun M2 F2 O2 => ?_)
    show WP _ _ 176 _ [] _ _
    refine xi_aload_n dX10_look_176 rfl ?_
    refine xi_getR dX10_look_177 fgX10_74 mm0 rfl ?_
    refine xi_iload_n dX10_look_180 rfl ?_
    refine xi_iload_n dX10_look_181 rfl ?_
    refine xe_iast p dX10_look_182 mm16 (by decide) rfl (by omega) ?_
    generalize eM3 : (xa M2 16 (upd (M2.2.1 16) p (nI t))) = M3
    have k16 : M3.2.1 16 p = xo (some t) := by rw [← eM3, xa_s, upd_s]; rfl
    refine xi_aload_n dX10_look_183 rfl ?_
    refine xi_getR dX10_look_184 fgX10_77 mm0 rfl ?_
    refine xi_iload_n dX10_look_187 rfl ?_
    refine xi_iload dX10_look_188 rfl ?_
    refine xe_iast p dX10_look_190 mm17 (by decide) rfl (by omega) ?_
    refine xi_drop [true, true, true, true, false, false] rfl ?_
    have eO : mgapO o (some u) (some v) t risk now = madd o 262144 false risk now := by show madd o 262144 (decide (t - u = v)) risk now = _; rw [show decide (t - u = v) = false by simp; omega]
    rw [eO] at h
    refine h _ ?_ ?_ ?_ ?_
    · exact (F2.fw.tr (by rw [← eM3]; exact Fw.xa (Or.inl rfl))).tr (Fw.xa (Or.inr rfl))
    · exact ⟨fun k q => by rw [xa_n (by decide), ← eM3, xa_n (by decide)]; exact (F2.2.2.1 k q).1, fun k q => by rw [xa_n (by decide), ← eM3, xa_n (by decide)]; exact (F2.2.2.1 k q).2.1, fun k q => by rw [xa_n (by decide), ← eM3, xa_n (by decide)]; exact (F2.2.2.1 k q).2.2, fun i q => by rw [← eM3]; exact F2.2.2.2.2 i q, fun k q => by rw [xa_n (by decide), ← eM3, xa_s, upd_n q, F2.2.1 16 (by decide) (by decide) (by decide)], fun k q => by rw [xa_s, upd_n q, ← eM3, xa_n (by decide), F2.2.1 17 (by decide) (by decide) (by decide)]⟩
    · exact MO.xa (by rw [← eM3]; exact MO.xa O2 (Or.inl rfl)) (Or.inr rfl)
    · exact ⟨by rw [xa_n (by decide)]; exact k16, by rw [xa_s, upd_s]; rfl⟩
  · skip
    refine xi_iconst (v := 1) dX10_look_168 rfl ?_
    refine xi_goto 173 dX10_look_169 (by decide) ?_
    refine xi_callV [.int (nI (2 * p + 1)), .long (nJ 262144), .int 1] [] dX10_look_173 zX10_tried mlX10_266 mm0 rfl rfl rfl rfl rfl (Nat.le_of_ble_eq_true rfl) (Nat.le_of_ble_eq_true rfl) ⟨by decide, by decide⟩ ?_
    refine n_tried (o := o) (k := 2 * p + 1) (c := 262144) (b := true) (by omega) hO hwo (by decide) hrb hnb hri hno (fun M2 F2 O2 => ?_)
    show WP _ _ 176 _ [] _ _
    refine xi_aload_n dX10_look_176 rfl ?_
    refine xi_getR dX10_look_177 fgX10_74 mm0 rfl ?_
    refine xi_iload_n dX10_look_180 rfl ?_
    refine xi_iload_n dX10_look_181 rfl ?_
    refine xe_iast p dX10_look_182 mm16 (by decide) rfl (by omega) ?_
    generalize eM3 : (xa M2 16 (upd (M2.2.1 16) p (nI t))) = M3
    have k16 : M3.2.1 16 p = xo (some t) := by rw [← eM3, xa_s, upd_s]; rfl
    refine xi_aload_n dX10_look_183 rfl ?_
    refine xi_getR dX10_look_184 fgX10_77 mm0 rfl ?_
    refine xi_iload_n dX10_look_187 rfl ?_
    refine xi_iload dX10_look_188 rfl ?_
    refine xe_iast p dX10_look_190 mm17 (by decide) rfl (by omega) ?_
    refine xi_drop [true, true, true, true, false, false] rfl ?_
    have eO : mgapO o (some u) (some v) t risk now = madd o 262144 true risk now := by show madd o 262144 (decide (t - u = v)) risk now = _; rw [show decide (t - u = v) = true by simp; omega]
    rw [eO] at h
    refine h _ ?_ ?_ ?_ ?_
    · exact (F2.fw.tr (by rw [← eM3]; exact Fw.xa (Or.inl rfl))).tr (Fw.xa (Or.inr rfl))
    · exact ⟨fun k q => by rw [xa_n (by decide), ← eM3, xa_n (by decide)]; exact (F2.2.2.1 k q).1, fun k q => by rw [xa_n (by decide), ← eM3, xa_n (by decide)]; exact (F2.2.2.1 k q).2.1, fun k q => by rw [xa_n (by decide), ← eM3, xa_n (by decide)]; exact (F2.2.2.1 k q).2.2, fun i q => by rw [← eM3]; exact F2.2.2.2.2 i q, fun k q => by rw [xa_n (by decide), ← eM3, xa_s, upd_n q, F2.2.1 16 (by decide) (by decide) (by decide)], fun k q => by rw [xa_s, upd_n q, ← eM3, xa_n (by decide), F2.2.1 17 (by decide) (by decide) (by decide)]⟩
    · exact MO.xa (by rw [← eM3]; exact MO.xa O2 (Or.inl rfl)) (Or.inr rfl)
    · exact ⟨by rw [xa_n (by decide)]; exact k16, by rw [xa_s, upd_s]; rfl⟩

