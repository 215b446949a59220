theorem RM.mv {G : xG} {S : xS} {M M2 : xM} {a b : Nat} (hW : wG G) (h : RM G S M a) (e : ∀ j, j < 112 → M2.2.1 5 (b + j) = M.2.1 5 (a + j)) : RM G S M2 b := by
  obtain ⟨b1, b2, b3, b4, b5, b6, b7, b8, b9, wmap, wlink, wk0, wk1, b10, b11, wword⟩ := id hW
  refine ⟨?_, ?_, ?_, ?_, ?_, ?_, ?_, ?_, ?_, ?_⟩
  · intro n hn; have z := e (6 * n + 0) (by omega); rw [← Nat.add_assoc, ← Nat.add_assoc] at z; exact z.trans (rmC h hn)
  · intro n hn; have z := e (6 * n + 1) (by omega); rw [← Nat.add_assoc, ← Nat.add_assoc] at z; exact z.trans (rmL h hn)
  · intro n hn; have z := e (6 * n + 5) (by omega); rw [← Nat.add_assoc, ← Nat.add_assoc] at z; exact z.trans (rmB h hn)
  · intro n hn; have z := e (6 * n + 2) (by omega); rw [← Nat.add_assoc, ← Nat.add_assoc] at z; exact z.trans (rmF h hn)
  · intro n hn; have z := e (6 * n + 3) (by omega); rw [← Nat.add_assoc, ← Nat.add_assoc] at z; exact z.trans (rmR h hn)
  · intro n hn; have z := e (6 * n + 4) (by omega); rw [← Nat.add_assoc, ← Nat.add_assoc] at z; exact z.trans (rmH h hn)
  · intro n hn; have z := e (104 + n) (by omega); rw [← Nat.add_assoc, ← Nat.add_assoc] at z; exact z.trans (rmP h hn)
  · intro n hn; have z := e (108 + n) (by omega); rw [← Nat.add_assoc, ← Nat.add_assoc] at z; exact z.trans (rmK h hn)
  · intro n hn; have z := e (96 + n) (by omega); rw [← Nat.add_assoc, ← Nat.add_assoc] at z; exact z.trans (rmO h hn)
  · intro n h1 hn
    have z1 := e (6 * n + 2) (by omega)
    have z2 := e (6 * n + 3) (by omega)
    have z3 := e (6 * n + 4) (by omega)
    rw [← Nat.add_assoc, ← Nat.add_assoc] at z1 z2 z3
    exact ⟨z1.trans (rmZ h h1 hn).1, z2.trans (rmZ h h1 hn).2.1, z3.trans (rmZ h h1 hn).2.2⟩
/-- acts and hits in the model's cells -/
def MA (A : Nat → Nat) (M : xM) : Prop := ∀ i, i < 2000 → M.2.1 6 i = nI (A i)
def MH (H : Nat → Nat) (M : xM) : Prop := ∀ i, i < 2000 → M.2.1 8 i = nI (H i)
/-- an act's code, or none -/
def wA (A : Nat → Nat) : Prop := ∀ i, A i < 1024 ∨ A i = 4096
def Fh (s : Nat) (M M2 : xM) : Prop := M2.1 = M.1 ∧ M2.2.2 = M.2.2 ∧ (∀ a, ¬ a = 5 → ¬ a = 8 → M2.2.1 a = M.2.1 a) ∧ ∀ i, (i < s ∨ s + 112 ≤ i) → M2.2.1 5 i = M.2.1 5 i
theorem Fh.rf {s : Nat} {M : xM} : Fh s M M := ⟨rfl, rfl, fun _ _ _ => rfl, fun _ _ => rfl⟩
theorem Fh.tr {s : Nat} {M M1 M2 : xM} (h : Fh s M M1) (h2 : Fh s M1 M2) : Fh s M M2 := ⟨h2.1.trans h.1, h2.2.1.trans h.2.1, fun a ha hb => (h2.2.2.1 a ha hb).trans (h.2.2.1 a ha hb), fun i hi => (h2.2.2.2 i hi).trans (h.2.2.2 i hi)⟩
theorem Fm.fh {s : Nat} {M M2 : xM} (h : Fm s M M2) : Fh s M M2 := ⟨h.1, h.2.1, fun a ha _ => h.2.2.1 a ha, h.2.2.2⟩
theorem Fh.xa {s : Nat} {M : xM} {f : Nat → Int32} : Fh s M (xa M 8 f) := ⟨rfl, rfl, fun a _ hb => xa_n hb, fun i _ => by rw [xa_n (by decide)]⟩
theorem MG.fh {G : xG} {M M2 : xM} {s : Nat} (h : MG G M) (f : Fh s M M2) : MG G M2 := h.keep (by rw [f.1]) (fun a ha => f.2.2.1 a (by omega) (by omega))
theorem MA.fh {A : Nat → Nat} {M M2 : xM} {s : Nat} (h : MA A M) (f : Fh s M M2) : MA A M2 := fun i hi => by rw [f.2.2.1 6 (by decide) (by decide)]; exact h i hi
theorem MH.fm {H : Nat → Nat} {M M2 : xM} {s : Nat} (h : MH H M) (f : Fm s M M2) : MH H M2 := fun i hi => by rw [f.2.2.1 8 (by decide)]; exact h i hi
theorem MH.up {H : Nat → Nat} {M : xM} {k j v : Nat} {x : Int32} (h : MH H M) (e : k = j) (ex : x = nI v) : MH (va_up H j v) (xa M 8 (upd (M.2.1 8) k x)) := by
  subst e
  subst ex
  intro i hi
  rw [xa_s]
  by_cases q : i = k
  · subst q; rw [upd_s, up_s]
  · rw [upd_n q, up_n q]; exact h i hi
theorem up_up {α : Type} {f : Nat → α} {k : Nat} {u v : α} : va_up (va_up f k u) k v = va_up f k v := by
  funext i
  by_cases q : i = k
  · subst q; rw [up_s, up_s]
  · rw [up_n q, up_n q, up_n q]
theorem up_self {α : Type} {f : Nat → α} {k : Nat} {v : α} (h : v = f k) : va_up f k v = f := by
  subst h
  funext i
  by_cases q : i = k
  · subst q; rw [up_s]
  · rw [up_n q]
theorem uP_self {S : xS} {p : Nat} {v : Int32} (h : v = sP S p) : uP S p v = S := by unfold uP; rw [up_self h]; rfl
theorem uR_self {S : xS} {p v : Nat} (h : v = sR S p) : uR S p v = S := by unfold uR; rw [up_self h]; rfl
theorem mact_no {G : xG} {S : xS} {p : Nat} : mact G S p 4096 = (0, S) := rfl
def mbeM (G : xG) : Nat → Nat → xS → xS
  | _, 0, S => S
  | n, f + 1, S => mbeM G (n + 1) f (if gkind G n = 1 ∨ gkind G n = 2 then mhuntL G n (if gkind G n = 2 then 2 else 1) S else S)
theorem mbeM_be {G : xG} (hW : wG G) : ∀ (f n : Nat) (S : xS), n + f ≤ gT G → gP G ≤ n → wS G S → mbeM G n f S = mbeL G n f S
  | 0, n, S, hf, hn, h => rfl
  | f + 1, n, S, hf, hn, h => by
    rw [mbeM, mbeL]
    have hk := hW.2.2.2.2.2.2.2.2.2.2.2.2.1 n hn (by omega)
    have e : (if gkind G n = 1 ∨ gkind G n = 2 then mhuntL G n (if gkind G n = 2 then 2 else 1) S else S) = mhuntL G n (if gkind G n = 2 then 2 else 1) S := by
      split
      · rfl
      · rw [mhuntL_0 (fun q => by have := h.2.2.1 n (by omega) q; omega)]
    rw [e]
    exact mbeM_be hW f (n + 1) _ (by omega) (by omega) (wS_hunt hW h (by omega))
theorem mbeM_lo {G : xG} (hW : wG G) : ∀ (f n : Nat) (S : xS), n + f = gT G → n ≤ gP G → wS G S → mbeM G n f S = mbeasts G S
  | 0, n, S, hf, hn, h => by
    have b7 : gP G ≤ gT G := hW.2.2.2.2.2.2.1
    have e : gT G - gP G = 0 := by omega
    rw [mbeM, mbeasts, e, mbeL]
  | f + 1, n, S, hf, hn, h => by
    by_cases q : n = gP G
    · rw [mbeM_be hW (f + 1) n S (by omega) (by omega) h, mbeasts, ← q, show gT G - n = f + 1 by omega]
    · have hk := hW.2.2.2.2.2.2.2.2.2.2.2.1 n (by omega)
      rw [mbeM, if_neg (by omega)]
      exact mbeM_lo hW f (n + 1) S (by omega) (by omega) h
set_option maxHeartbeats 4000000 in
set_option maxRecDepth 100000 in
theorem nl_wcopy {s : Nat} {Q : Option Value → xM → Prop} (hs : s ≤ 56000) {t : Nat} (es : s = 112 * (t + 1)) : ∀ (f i : Nat) (M : xM), i + f = 112 → (∀ j, j < i → M.2.1 5 (s + j) = M.2.1 5 (s - 112 + j)) → (∀ M2, Fm s M M2 → (∀ j, j < 112 → M2.2.1 5 (s + j) = M2.2.1 5 (s - 112 + j)) → WP shM mX10_work 40 [some (.ref 0), some (.int (nI t)), some (.int (nI s)), some (.int (nI 112)), none] [] M2 Q) → WP shM mX10_work 9 [some (.ref 0), some (.int (nI t)), some (.int (nI s)), some (.int (nI i)), none] [] M Q := by
  intro f
  induction f with
  | zero =>
    intro i M hf hc h
    refine xi_iload_n dX10_work_9 rfl ?_
    refine xi_bipush (v := 112) dX10_work_10 (by decide) ?_
    refine xn_icmp_ge i 112 40 dX10_work_12 (by decide) rfl rfl (by omega) (by omega) (fun h12 => ?_) (fun h12 => ?_)
    · skip
      have ei : i = 112 := by omega
      subst ei
      exact h M Fm.rf hc
    · omega
  | succ f ih =>
    intro i M hf hc h
    refine xi_iload_n dX10_work_9 rfl ?_
    refine xi_bipush (v := 112) dX10_work_10 (by decide) ?_
    refine xn_icmp_ge i 112 40 dX10_work_12 (by decide) rfl rfl (by omega) (by omega) (fun h12 => ?_) (fun h12 => ?_)
    · omega
    · skip
      refine xi_aload_n dX10_work_15 rfl ?_
      refine xi_getR dX10_work_16 fgX10_39 mm0 rfl ?_
      refine xi_iload_n dX10_work_19 rfl ?_
      refine xi_iload_n dX10_work_20 rfl ?_
      refine xe_iadd dX10_work_21 (v := nI (s + i)) (nI_add s i) ?_
      refine xi_aload_n dX10_work_22 rfl ?_
      refine xi_getR dX10_work_23 fgX10_39 mm0 rfl ?_
      refine xi_iload_n dX10_work_26 rfl ?_
      refine xi_bipush (v := 112) dX10_work_27 (by decide) ?_
      refine xe_isub dX10_work_29 (v := nI (s - 112)) (pk_sub (b := 112) (by omega)) ?_
      refine xi_iload_n dX10_work_30 rfl ?_
      refine xat 31 rfl ?_
      refine xe_iadd dX10_work_31 (v := nI (s - 112 + i)) (nI_add (s - 112) i) ?_
      refine xe_iald (v := (M.2.1 5 (s - 112 + i))) (s - 112 + i) dX10_work_32 mm5 (by decide) rfl (by omega) rfl ?_
      refine xe_iast (s + i) dX10_work_33 mm5 (by decide) rfl (by omega) ?_
      refine xi_iinc (v := nI (i + 1)) (lv' := [some (.ref 0), some (.int (nI t)), some (.int (nI s)), some (.int (nI (i + 1))), none]) dX10_work_34 rfl (xinc i) (by decide) rfl ?_
      refine xi_goto 9 dX10_work_37 (by decide) ?_
      refine ih (i + 1) _ (by omega) (fun j hj => ?_) (fun M99 hF99 hC99 => h M99 ((Fm.xa (by omega) (by omega)).tr hF99) hC99)
      rw [xa_s]
      by_cases q : j = i
      · subst q; rw [upd_s, upd_n (by omega)]
      · rw [upd_n (by omega), upd_n (by omega)]; exact hc j (by omega)

set_option maxHeartbeats 4000000 in
set_option maxRecDepth 100000 in
theorem nl_wbod {G : xG} {s : Nat} {Q : Option Value → xM → Prop} (hW : wG G) (hs : s ≤ 56000) {t : Nat} (es : s = 112 * (t + 1)) {A : Nat → Nat} (wA_ : wA A) : ∀ (f i : Nat) (S : xS) (H : Nat → Nat) (M : xM), i + f = gP G → MG G M → RM G S M s → wS G S → MA A M → MH H M → (∀ M2, Fh s M M2 → RM G (mbL G A t i f (S, H)).1 M2 s → MH (mbL G A t i f (S, H)).2 M2 → WP shM mX10_work 134 [some (.ref 0), some (.int (nI t)), some (.int (nI s)), some (.int (nI (gP G))), none] [] M2 Q) → WP shM mX10_work 42 [some (.ref 0), some (.int (nI t)), some (.int (nI s)), some (.int (nI i)), none] [] M Q := by
  obtain ⟨b1, b2, b3, b4, b5, b6, b7, b8, b9, wmap, wlink, wk0, wk1, b10, b11, wword⟩ := id hW
  intro f
  induction f with
  | zero =>
    intro i S H M hf hG hS hw hA hH h
    refine xi_iload_n dX10_work_42 rfl ?_
    refine xi_aload_n dX10_work_43 rfl ?_
    refine xe_getI (v := nI (gP G)) dX10_work_44 fgX10_16 mm0 rfl (mg_P hG) ?_
    refine xn_icmp_ge i (gP G) 134 dX10_work_47 (by decide) rfl rfl (by omega) (by omega) (fun h47 => ?_) (fun h47 => ?_)
    · skip
      have ei : i = gP G := by omega
      subst ei
      exact h M Fh.rf hS hH
    · omega
  | succ f ih =>
    intro i S H M hf hG hS hw hA hH h
    refine xi_iload_n dX10_work_42 rfl ?_
    refine xi_aload_n dX10_work_43 rfl ?_
    refine xe_getI (v := nI (gP G)) dX10_work_44 fgX10_16 mm0 rfl (mg_P hG) ?_
    refine xn_icmp_ge i (gP G) 134 dX10_work_47 (by decide) rfl rfl (by omega) (by omega) (fun h47 => ?_) (fun h47 => ?_)
    · omega
    · skip
      refine xi_iload_n dX10_work_50 rfl ?_
      refine xi_iload_n dX10_work_51 rfl ?_
      refine xe_iadd dX10_work_52 (v := nI (t + i)) (nI_add t i) ?_
      refine xi_aload_n dX10_work_53 rfl ?_
      refine xe_getI (v := nI (gP G)) dX10_work_54 fgX10_16 mm0 rfl (mg_P hG) ?_
      obtain ⟨r, hr⟩ : ∃ r, r = (t + i) % gP G := ⟨_, rfl⟩
      have hrP : r < gP G := by rw [hr]; exact Nat.mod_lt _ (by omega)
      have hAr := wA_ (t * 4 + r)
      refine xe_irem dX10_work_57 (nI_ne0 (by omega) (by omega)) (v := nI r) (by rw [hr]; exact pk_rem (by omega) (by omega) (by omega)) ?_
      refine xi_istore (lv' := [some (.ref 0), some (.int (nI t)), some (.int (nI s)), some (.int (nI i)), some (.int (nI r))]) dX10_work_58 (by decide) rfl ?_
      refine xi_aload_n dX10_work_60 rfl ?_
      refine xi_getR dX10_work_61 fgX10_49 mm0 rfl ?_
      refine xi_iconst (v := 4) dX10_work_64 rfl ?_
      refine xi_iload_n dX10_work_65 rfl ?_
      refine xat 66 rfl ?_
      refine xe_imul dX10_work_66 (v := nI (4 * t)) (pk_mul 4 t) ?_
      refine xi_iload dX10_work_67 rfl ?_
      refine xe_iadd dX10_work_69 (v := nI (4 * t + r)) (nI_add (4 * t) r) ?_
      refine xi_iconst (v := 0) dX10_work_70 rfl ?_
      refine xe_iast (4 * t + r) dX10_work_71 mm8 (by decide) rfl (by omega) ?_
      generalize eM1 : (xa M 8 (upd (M.2.1 8) (4 * t + r) 0)) = M1
      have hE1 : Fh s M M1 := by rw [← eM1]; exact Fh.xa
      have hG1 : MG G M1 := MG.fh hG hE1
      have hS1 : RM G S M1 s := by rw [← eM1]; exact RM.mv hW hS (fun j _ => by rw [xa_n (by decide)])
      have hH1 : MH (va_up H (t * 4 + r) 0) M1 := by rw [← eM1]; exact MH.up hH (by omega) rfl
      refine xi_aload_n dX10_work_72 rfl ?_
      refine xi_iload_n dX10_work_73 rfl ?_
      refine xi_iload dX10_work_74 rfl ?_
      refine xi_callV [.int (nI s), .int (nI r)] [] dX10_work_76 zX10_stands mlX10_161 mm0 rfl rfl rfl rfl rfl (Nat.le_of_ble_eq_true rfl) (Nat.le_of_ble_eq_true rfl) ⟨by decide, by decide⟩ ?_
      refine n_stands hW hG1 hs hS1 hw (n := r) (by omega) ?_
      show WP _ _ 79 _ [.int (xb (decide (0 < sL S r)))] _ _
      refine xb_if_eq (decide (0 < sL S r)) 128 dX10_work_79 (by decide) rfl (fun h79 => ?_) (fun h79 => ?_)
      · skip
        refine xi_iinc (v := nI (i + 1)) (lv' := [some (.ref 0), some (.int (nI t)), some (.int (nI s)), some (.int (nI (i + 1))), some (.int (nI r))]) dX10_work_128 rfl (xinc i) (by decide) rfl ?_
        refine xi_goto 42 dX10_work_131 (by decide) ?_
        have e : mbS G A t i (S, H) = (S, (va_up H (t * 4 + r) 0)) := by
          unfold mbS
          rw [← hr]
          show ((mact G S r (if 0 < sL S r then A (t * 4 + r) else 4096)).2, va_up H (t * 4 + r) (mact G S r (if 0 < sL S r then A (t * 4 + r) else 4096)).1) = _
          rw [if_neg (by simpa using h79), mact_no]
        refine xi_drop [true, true, true, true, false] rfl ?_
        exact ih (i + 1) S (va_up H (t * 4 + r) 0) M1 (by omega) hG1 hS1 hw (hE1 |> MA.fh hA) hH1 (fun M99 hF99 hS99 hH99 => h M99 (hE1.tr hF99) (by rw [mbL, e]; exact hS99) (by rw [mbL, e]; exact hH99))
      · skip
        refine xi_aload_n dX10_work_82 rfl ?_
        refine xi_getR dX10_work_83 fgX10_42 mm0 rfl ?_
        refine xi_iconst (v := 4) dX10_work_86 rfl ?_
        refine xi_iload_n dX10_work_87 rfl ?_
        refine xe_imul dX10_work_88 (v := nI (4 * t)) (pk_mul 4 t) ?_
        refine xi_iload dX10_work_89 rfl ?_
        refine xe_iadd dX10_work_91 (v := nI (4 * t + r)) (nI_add (4 * t) r) ?_
        refine xe_iald (v := nI (A (t * 4 + r))) (4 * t + r) dX10_work_92 mm6 (by decide) rfl (by omega) (by rw [Nat.mul_comm 4 t]; exact (hE1 |> MA.fh hA) _ (by omega)) ?_
        refine xi_sipush (v := 4096) dX10_work_93 (by decide) ?_
        refine xn_icmp_eq (A (t * 4 + r)) 4096 128 dX10_work_96 (by decide) rfl rfl (by omega) (by omega) (fun h96 => ?_) (fun h96 => ?_)
        · skip
          refine xi_iinc (v := nI (i + 1)) (lv' := [some (.ref 0), some (.int (nI t)), some (.int (nI s)), some (.int (nI (i + 1))), some (.int (nI r))]) dX10_work_128 rfl (xinc i) (by decide) rfl ?_
          refine xi_goto 42 dX10_work_131 (by decide) ?_
          have e : mbS G A t i (S, H) = (S, (va_up H (t * 4 + r) 0)) := by
            unfold mbS
            rw [← hr]
            show ((mact G S r (if 0 < sL S r then A (t * 4 + r) else 4096)).2, va_up H (t * 4 + r) (mact G S r (if 0 < sL S r then A (t * 4 + r) else 4096)).1) = _
            rw [if_pos (by simpa using h79), h96, mact_no]
          refine xi_drop [true, true, true, true, false] rfl ?_
          exact ih (i + 1) S (va_up H (t * 4 + r) 0) M1 (by omega) hG1 hS1 hw (hE1 |> MA.fh hA) hH1 (fun M99 hF99 hS99 hH99 => h M99 (hE1.tr hF99) (by rw [mbL, e]; exact hS99) (by rw [mbL, e]; exact hH99))
        · skip
          refine xi_aload_n dX10_work_99 rfl ?_
          refine xi_getR dX10_work_100 fgX10_49 mm0 rfl ?_
          refine xi_iconst (v := 4) dX10_work_103 rfl ?_
          refine xi_iload_n dX10_work_104 rfl ?_
          refine xe_imul dX10_work_105 (v := nI (4 * t)) (pk_mul 4 t) ?_
          refine xi_iload dX10_work_106 rfl ?_
          refine xe_iadd dX10_work_108 (v := nI (4 * t + r)) (nI_add (4 * t) r) ?_
          refine xi_aload_n dX10_work_109 rfl ?_
          refine xi_iload_n dX10_work_110 rfl ?_
          refine xi_iload dX10_work_111 rfl ?_
          refine xi_aload_n dX10_work_113 rfl ?_
          refine xat 114 rfl ?_
          refine xi_getR dX10_work_114 fgX10_42 mm0 rfl ?_
          refine xi_iconst (v := 4) dX10_work_117 rfl ?_
          refine xi_iload_n dX10_work_118 rfl ?_
          refine xe_imul dX10_work_119 (v := nI (4 * t)) (pk_mul 4 t) ?_
          refine xi_iload dX10_work_120 rfl ?_
          refine xe_iadd dX10_work_122 (v := nI (4 * t + r)) (nI_add (4 * t) r) ?_
          refine xe_iald (v := nI (A (t * 4 + r))) (4 * t + r) dX10_work_123 mm6 (by decide) rfl (by omega) (by rw [Nat.mul_comm 4 t]; exact (hE1 |> MA.fh hA) _ (by omega)) ?_
          refine xi_callV [.int (nI s), .int (nI r), .int (nI (A (t * 4 + r)))] [.int (nI (4 * t + r)), .ref 8] dX10_work_124 zX10_does mlX10_220 mm0 rfl rfl rfl rfl rfl (Nat.le_of_ble_eq_true rfl) (Nat.le_of_ble_eq_true rfl) ⟨by decide, by decide⟩ ?_
          refine n_does hW hG1 hs hS1 hw (p := r) (c := A (t * 4 + r)) (by omega) (by omega) (fun M4 hF4 hS4 => ?_)
          have hG4 : MG G M4 := MG.fm hG1 hF4
          have hw4 : wS G ((mact G S r (A (t * 4 + r))).2) := wS_act hW hw (by omega)
          show WP _ _ 127 _ [.int (nI ((mact G S r (A (t * 4 + r))).1)), .int (nI (4 * t + r)), .ref 8] _ _
          refine xe_iast (4 * t + r) dX10_work_127 mm8 (by decide) rfl (by omega) ?_
          generalize eM5 : (xa M4 8 (upd (M4.2.1 8) (4 * t + r) (nI ((mact G S r (A (t * 4 + r))).1)))) = M5
          have hE5 : Fh s M4 M5 := by rw [← eM5]; exact Fh.xa
          have hG5 : MG G M5 := MG.fh hG4 hE5
          have hS5 : RM G ((mact G S r (A (t * 4 + r))).2) M5 s := by rw [← eM5]; exact RM.mv hW hS4 (fun j _ => by rw [xa_n (by decide)])
          have hH5 : MH (va_up (va_up H (t * 4 + r) 0) (t * 4 + r) ((mact G S r (A (t * 4 + r))).1)) M5 := by rw [← eM5]; exact MH.up (MH.fm hH1 hF4) (by omega) rfl
          refine xi_iinc (v := nI (i + 1)) (lv' := [some (.ref 0), some (.int (nI t)), some (.int (nI s)), some (.int (nI (i + 1))), some (.int (nI r))]) dX10_work_128 rfl (xinc i) (by decide) rfl ?_
          refine xi_goto 42 dX10_work_131 (by decide) ?_
          have e : mbS G A t i (S, H) = (((mact G S r (A (t * 4 + r))).2), (va_up (va_up H (t * 4 + r) 0) (t * 4 + r) ((mact G S r (A (t * 4 + r))).1))) := by
            unfold mbS
            rw [← hr]
            show ((mact G S r (if 0 < sL S r then A (t * 4 + r) else 4096)).2, va_up H (t * 4 + r) (mact G S r (if 0 < sL S r then A (t * 4 + r) else 4096)).1) = _
            rw [if_pos (by simpa using h79), up_up]
          refine xi_drop [true, true, true, true, false] rfl ?_
          exact ih (i + 1) ((mact G S r (A (t * 4 + r))).2) (va_up (va_up H (t * 4 + r) 0) (t * 4 + r) ((mact G S r (A (t * 4 + r))).1)) M5 (by omega) hG5 hS5 hw4 (((hE1.tr hF4.fh).tr hE5) |> MA.fh hA) hH5 (fun M99 hF99 hS99 hH99 => h M99 (((hE1.tr hF4.fh).tr hE5).tr hF99) (by rw [mbL, e]; exact hS99) (by rw [mbL, e]; exact hH99))

set_option maxHeartbeats 4000000 in
set_option maxRecDepth 100000 in
theorem nl_wbe {G : xG} {s : Nat} {Q : Option Value → xM → Prop} (hW : wG G) (hs : s ≤ 56000) {t : Nat} (es : s = 112 * (t + 1)) : ∀ (f n : Nat) (S : xS) (M : xM), n + f = gT G → MG G M → RM G S M s → wS G S → (∀ M2, Fm s M M2 → RM G (mbeM G n f S) M2 s → WP shM mX10_work 219 [some (.ref 0), some (.int (nI t)), some (.int (nI s)), some (.int (nI (gT G))), none] [] M2 Q) → WP shM mX10_work 136 [some (.ref 0), some (.int (nI t)), some (.int (nI s)), some (.int (nI n)), none] [] M Q := by
  obtain ⟨b1, b2, b3, b4, b5, b6, b7, b8, b9, wmap, wlink, wk0, wk1, b10, b11, wword⟩ := id hW
  intro f
  induction f with
  | zero =>
    intro n S M hf hG hS hw h
    refine xi_iload_n dX10_work_136 rfl ?_
    refine xi_aload_n dX10_work_137 rfl ?_
    refine xe_getI (v := nI (gT G)) dX10_work_138 fgX10_107 mm0 rfl (mg_T hG) ?_
    refine xn_icmp_ge n (gT G) 219 dX10_work_141 (by decide) rfl rfl (by omega) (by omega) (fun h141 => ?_) (fun h141 => ?_)
    · skip
      have ei : n = gT G := by omega
      subst ei
      exact h M Fm.rf hS
    · omega
  | succ f ih =>
    intro n S M hf hG hS hw h
    refine xi_iload_n dX10_work_136 rfl ?_
    refine xi_aload_n dX10_work_137 rfl ?_
    refine xe_getI (v := nI (gT G)) dX10_work_138 fgX10_107 mm0 rfl (mg_T hG) ?_
    refine xn_icmp_ge n (gT G) 219 dX10_work_141 (by decide) rfl rfl (by omega) (by omega) (fun h141 => ?_) (fun h141 => ?_)
    · omega
    · skip
      refine xi_aload_n dX10_work_144 rfl ?_
      refine xi_getR dX10_work_145 fgX10_29 mm0 rfl ?_
      refine xi_iload_n dX10_work_148 rfl ?_
      have q1 : gkind G n ≤ 7 := hW.kind (by omega)
      refine xe_iald (v := nI (gkind G n)) n dX10_work_149 mm4 (by decide) rfl (by omega) (mg_kind hG (by omega)) ?_
      refine xi_iconst (v := 1) dX10_work_150 rfl ?_
      refine xn_icmp_eq (gkind G n) 1 164 dX10_work_151 (by decide) rfl rfl (by omega) (by omega) (fun h151 => ?_) (fun h151 => ?_)
      · skip
        have hnP : gP G ≤ n := by
          by_cases z : n < gP G
          · have := wk0 n z; omega
          · omega
        refine xi_aload_n dX10_work_164 rfl ?_
        refine xi_iload_n dX10_work_165 rfl ?_
        refine xi_iload_n dX10_work_166 rfl ?_
        refine xi_callV [.int (nI s), .int (nI n)] [] dX10_work_167 zX10_stands mlX10_161 mm0 rfl rfl rfl rfl rfl (Nat.le_of_ble_eq_true rfl) (Nat.le_of_ble_eq_true rfl) ⟨by decide, by decide⟩ ?_
        refine n_stands hW hG hs hS hw (n := n) (by omega) ?_
        show WP _ _ 170 _ [.int (xb (decide (0 < sL S n)))] _ _
        refine xb_if_eq (decide (0 < sL S n)) 213 dX10_work_170 (by decide) rfl (fun h170 => ?_) (fun h170 => ?_)
        · skip
          refine xi_iinc (v := nI (n + 1)) (lv' := [some (.ref 0), some (.int (nI t)), some (.int (nI s)), some (.int (nI (n + 1))), none]) dX10_work_213 rfl (xinc n) (by decide) rfl ?_
          refine xi_goto 136 dX10_work_216 (by decide) ?_
          have e : (if gkind G n = 1 ∨ gkind G n = 2 then mhuntL G n (if gkind G n = 2 then 2 else 1) S else S) = S := by
            rw [if_pos (by omega)]
            exact mhuntL_0 (by simpa using h170) _
          refine xi_drop [true, true, true, true, false] rfl ?_
          exact ih (n + 1) S M (by omega) hG hS hw (fun M99 hF99 hS99 => h M99 (Fm.rf.tr hF99) (by rw [mbeM, e]; exact hS99))
        · skip
          refine xi_aload_n dX10_work_173 rfl ?_
          refine xi_iload_n dX10_work_174 rfl ?_
          refine xi_iload_n dX10_work_175 rfl ?_
          refine xi_callV [.int (nI s), .int (nI n)] [] dX10_work_176 zX10_hunt mlX10_223 mm0 rfl rfl rfl rfl rfl (Nat.le_of_ble_eq_true rfl) (Nat.le_of_ble_eq_true rfl) ⟨by decide, by decide⟩ ?_
          refine n_hunt hW hG hs hS hw (n := n) (by omega) (by omega) (by omega) (fun M2 hF2 hS2 => ?_)
          have hG2 : MG G M2 := MG.fm hG hF2
          have hw2 : wS G ((mhunt1 G S n).2) := wS_hunt1 hW hw (by omega) (by simpa using h170)
          show WP _ _ 179 _ [.int (xb ((mhunt1 G S n).1))] _ _
          refine xi_istore (lv' := [some (.ref 0), some (.int (nI t)), some (.int (nI s)), some (.int (nI n)), some (.int (xb ((mhunt1 G S n).1)))]) dX10_work_179 (by decide) rfl ?_
          refine xi_aload_n dX10_work_181 rfl ?_
          refine xi_getR dX10_work_182 fgX10_29 mm0 rfl ?_
          refine xi_iload_n dX10_work_185 rfl ?_
          have q3 : gkind G n ≤ 7 := hW.kind (by omega)
          refine xe_iald (v := nI (gkind G n)) n dX10_work_186 mm4 (by decide) rfl (by omega) (mg_kind hG2 (by omega)) ?_
          refine xi_iconst (v := 2) dX10_work_187 rfl ?_
          refine xn_icmp_ne (gkind G n) 2 213 dX10_work_188 (by decide) rfl rfl (by omega) (by omega) (fun h188 => ?_) (fun h188 => ?_)
          · skip
            refine xi_iinc (v := nI (n + 1)) (lv' := [some (.ref 0), some (.int (nI t)), some (.int (nI s)), some (.int (nI (n + 1))), some (.int (xb ((mhunt1 G S n).1)))]) dX10_work_213 rfl (xinc n) (by decide) rfl ?_
            refine xi_goto 136 dX10_work_216 (by decide) ?_
            have e : (if gkind G n = 1 ∨ gkind G n = 2 then mhuntL G n (if gkind G n = 2 then 2 else 1) S else S) = ((mhunt1 G S n).2) := by
              rw [if_pos (by omega), if_neg (by omega), mhuntL_s (by simpa using h170)]
              split <;> rfl
            refine xi_drop [true, true, true, true, false] rfl ?_
            exact ih (n + 1) ((mhunt1 G S n).2) M2 (by omega) hG2 hS2 hw2 (fun M99 hF99 hS99 => h M99 (hF2.tr hF99) (by rw [mbeM, e]; exact hS99))
          · skip
            refine xi_iload dX10_work_191 rfl ?_
            refine xb_if_ne ((mhunt1 G S n).1) 213 dX10_work_193 (by decide) rfl (fun h193 => ?_) (fun h193 => ?_)
            · skip
              refine xi_iinc (v := nI (n + 1)) (lv' := [some (.ref 0), some (.int (nI t)), some (.int (nI s)), some (.int (nI (n + 1))), some (.int (xb ((mhunt1 G S n).1)))]) dX10_work_213 rfl (xinc n) (by decide) rfl ?_
              refine xi_goto 136 dX10_work_216 (by decide) ?_
              have e : (if gkind G n = 1 ∨ gkind G n = 2 then mhuntL G n (if gkind G n = 2 then 2 else 1) S else S) = ((mhunt1 G S n).2) := by
                rw [if_pos (by omega), if_pos (by omega), mhuntL_s (by simpa using h170)]
                exact if_pos h193
              refine xi_drop [true, true, true, true, false] rfl ?_
              exact ih (n + 1) ((mhunt1 G S n).2) M2 (by omega) hG2 hS2 hw2 (fun M99 hF99 hS99 => h M99 (hF2.tr hF99) (by rw [mbeM, e]; exact hS99))
            · skip
              refine xi_aload_n dX10_work_196 rfl ?_
              refine xi_iload_n dX10_work_197 rfl ?_
              refine xi_iload_n dX10_work_198 rfl ?_
              refine xi_callV [.int (nI s), .int (nI n)] [] dX10_work_199 zX10_stands mlX10_161 mm0 rfl rfl rfl rfl rfl (Nat.le_of_ble_eq_true rfl) (Nat.le_of_ble_eq_true rfl) ⟨by decide, by decide⟩ ?_
              refine n_stands hW hG2 hs hS2 hw2 (n := n) (by omega) ?_
              show WP _ _ 202 _ [.int (xb (decide (0 < sL ((mhunt1 G S n).2) n)))] _ _
              refine xb_if_eq (decide (0 < sL ((mhunt1 G S n).2) n)) 213 dX10_work_202 (by decide) rfl (fun h202 => ?_) (fun h202 => ?_)
              · skip
                refine xi_iinc (v := nI (n + 1)) (lv' := [some (.ref 0), some (.int (nI t)), some (.int (nI s)), some (.int (nI (n + 1))), some (.int (xb ((mhunt1 G S n).1)))]) dX10_work_213 rfl (xinc n) (by decide) rfl ?_
                refine xi_goto 136 dX10_work_216 (by decide) ?_
                have e : (if gkind G n = 1 ∨ gkind G n = 2 then mhuntL G n (if gkind G n = 2 then 2 else 1) S else S) = ((mhunt1 G S n).2) := by
                  rw [if_pos (by omega), if_pos (by omega), mhuntL_s (by simpa using h170)]
                  rw [if_neg (by simp [h193])]
                  exact mhuntL_0 (by simpa using h202) _
                refine xi_drop [true, true, true, true, false] rfl ?_
                exact ih (n + 1) ((mhunt1 G S n).2) M2 (by omega) hG2 hS2 hw2 (fun M99 hF99 hS99 => h M99 (hF2.tr hF99) (by rw [mbeM, e]; exact hS99))
              · skip
                refine xi_aload_n dX10_work_205 rfl ?_
                refine xi_iload_n dX10_work_206 rfl ?_
                refine xi_iload_n dX10_work_207 rfl ?_
                refine xi_callV [.int (nI s), .int (nI n)] [] dX10_work_208 zX10_hunt mlX10_223 mm0 rfl rfl rfl rfl rfl (Nat.le_of_ble_eq_true rfl) (Nat.le_of_ble_eq_true rfl) ⟨by decide, by decide⟩ ?_
                refine n_hunt hW hG2 hs hS2 hw2 (n := n) (by omega) (by omega) (by omega) (fun M4 hF4 hS4 => ?_)
                have hG4 : MG G M4 := MG.fm hG2 hF4
                have hw4 : wS G ((mhunt1 G ((mhunt1 G S n).2) n).2) := wS_hunt1 hW hw2 (by omega) (by simpa using h202)
                show WP _ _ 211 _ [.int (xb ((mhunt1 G ((mhunt1 G S n).2) n).1))] _ _
                refine xi_istore (lv' := [some (.ref 0), some (.int (nI t)), some (.int (nI s)), some (.int (nI n)), some (.int (xb ((mhunt1 G ((mhunt1 G S n).2) n).1)))]) dX10_work_211 (by decide) rfl ?_
                refine xi_iinc (v := nI (n + 1)) (lv' := [some (.ref 0), some (.int (nI t)), some (.int (nI s)), some (.int (nI (n + 1))), some (.int (xb ((mhunt1 G ((mhunt1 G S n).2) n).1)))]) dX10_work_213 rfl (xinc n) (by decide) rfl ?_
                refine xi_goto 136 dX10_work_216 (by decide) ?_
                have e : (if gkind G n = 1 ∨ gkind G n = 2 then mhuntL G n (if gkind G n = 2 then 2 else 1) S else S) = ((mhunt1 G ((mhunt1 G S n).2) n).2) := by
                  rw [if_pos (by omega), if_pos (by omega), mhuntL_s (by simpa using h170)]
                  rw [if_neg (by simp [h193])]
                  rw [mhuntL_s (by simpa using h202)]
                  split <;> rfl
                refine xi_drop [true, true, true, true, false] rfl ?_
                exact ih (n + 1) ((mhunt1 G ((mhunt1 G S n).2) n).2) M4 (by omega) hG4 hS4 hw4 (fun M99 hF99 hS99 => h M99 ((hF2.tr hF4).tr hF99) (by rw [mbeM, e]; exact hS99))
      · skip
        refine xi_aload_n dX10_work_154 rfl ?_
        refine xi_getR dX10_work_155 fgX10_29 mm0 rfl ?_
        refine xi_iload_n dX10_work_158 rfl ?_
        have q5 : gkind G n ≤ 7 := hW.kind (by omega)
        refine xe_iald (v := nI (gkind G n)) n dX10_work_159 mm4 (by decide) rfl (by omega) (mg_kind hG (by omega)) ?_
        refine xi_iconst (v := 2) dX10_work_160 rfl ?_
        refine xn_icmp_ne (gkind G n) 2 213 dX10_work_161 (by decide) rfl rfl (by omega) (by omega) (fun h161 => ?_) (fun h161 => ?_)
        · skip
          refine xi_iinc (v := nI (n + 1)) (lv' := [some (.ref 0), some (.int (nI t)), some (.int (nI s)), some (.int (nI (n + 1))), none]) dX10_work_213 rfl (xinc n) (by decide) rfl ?_
          refine xi_goto 136 dX10_work_216 (by decide) ?_
          have e : (if gkind G n = 1 ∨ gkind G n = 2 then mhuntL G n (if gkind G n = 2 then 2 else 1) S else S) = S := if_neg (by omega)
          refine xi_drop [true, true, true, true, false] rfl ?_
          exact ih (n + 1) S M (by omega) hG hS hw (fun M99 hF99 hS99 => h M99 (Fm.rf.tr hF99) (by rw [mbeM, e]; exact hS99))
        · skip
          have hnP : gP G ≤ n := by
            by_cases z : n < gP G
            · have := wk0 n z; omega
            · omega
          refine xi_aload_n dX10_work_164 rfl ?_
          refine xi_iload_n dX10_work_165 rfl ?_
          refine xi_iload_n dX10_work_166 rfl ?_
          refine xi_callV [.int (nI s), .int (nI n)] [] dX10_work_167 zX10_stands mlX10_161 mm0 rfl rfl rfl rfl rfl (Nat.le_of_ble_eq_true rfl) (Nat.le_of_ble_eq_true rfl) ⟨by decide, by decide⟩ ?_
          refine n_stands hW hG hs hS hw (n := n) (by omega) ?_
          show WP _ _ 170 _ [.int (xb (decide (0 < sL S n)))] _ _
          refine xb_if_eq (decide (0 < sL S n)) 213 dX10_work_170 (by decide) rfl (fun h170 => ?_) (fun h170 => ?_)
          · skip
            refine xi_iinc (v := nI (n + 1)) (lv' := [some (.ref 0), some (.int (nI t)), some (.int (nI s)), some (.int (nI (n + 1))), none]) dX10_work_213 rfl (xinc n) (by decide) rfl ?_
            refine xi_goto 136 dX10_work_216 (by decide) ?_
            have e : (if gkind G n = 1 ∨ gkind G n = 2 then mhuntL G n (if gkind G n = 2 then 2 else 1) S else S) = S := by
              rw [if_pos (by omega)]
              exact mhuntL_0 (by simpa using h170) _
            refine xi_drop [true, true, true, true, false] rfl ?_
            exact ih (n + 1) S M (by omega) hG hS hw (fun M99 hF99 hS99 => h M99 (Fm.rf.tr hF99) (by rw [mbeM, e]; exact hS99))
          · skip
            refine xi_aload_n dX10_work_173 rfl ?_
            refine xi_iload_n dX10_work_174 rfl ?_
            refine xi_iload_n dX10_work_175 rfl ?_
            refine xi_callV [.int (nI s), .int (nI n)] [] dX10_work_176 zX10_hunt mlX10_223 mm0 rfl rfl rfl rfl rfl (Nat.le_of_ble_eq_true rfl) (Nat.le_of_ble_eq_true rfl) ⟨by decide, by decide⟩ ?_
            refine n_hunt hW hG hs hS hw (n := n) (by omega) (by omega) (by omega) (fun M6 hF6 hS6 => ?_)
            have hG6 : MG G M6 := MG.fm hG hF6
            have hw6 : wS G ((mhunt1 G S n).2) := wS_hunt1 hW hw (by omega) (by simpa using h170)
            show WP _ _ 179 _ [.int (xb ((mhunt1 G S n).1))] _ _
            refine xi_istore (lv' := [some (.ref 0), some (.int (nI t)), some (.int (nI s)), some (.int (nI n)), some (.int (xb ((mhunt1 G S n).1)))]) dX10_work_179 (by decide) rfl ?_
            refine xi_aload_n dX10_work_181 rfl ?_
            refine xi_getR dX10_work_182 fgX10_29 mm0 rfl ?_
            refine xi_iload_n dX10_work_185 rfl ?_
            have q7 : gkind G n ≤ 7 := hW.kind (by omega)
            refine xe_iald (v := nI (gkind G n)) n dX10_work_186 mm4 (by decide) rfl (by omega) (mg_kind hG6 (by omega)) ?_
            refine xi_iconst (v := 2) dX10_work_187 rfl ?_
            refine xn_icmp_ne (gkind G n) 2 213 dX10_work_188 (by decide) rfl rfl (by omega) (by omega) (fun h188 => ?_) (fun h188 => ?_)
            · skip
              refine xi_iinc (v := nI (n + 1)) (lv' := [some (.ref 0), some (.int (nI t)), some (.int (nI s)), some (.int (nI (n + 1))), some (.int (xb ((mhunt1 G S n).1)))]) dX10_work_213 rfl (xinc n) (by decide) rfl ?_
              refine xi_goto 136 dX10_work_216 (by decide) ?_
              have e : (if gkind G n = 1 ∨ gkind G n = 2 then mhuntL G n (if gkind G n = 2 then 2 else 1) S else S) = ((mhunt1 G S n).2) := by
                rw [if_pos (by omega), if_neg (by omega), mhuntL_s (by simpa using h170)]
                split <;> rfl
              refine xi_drop [true, true, true, true, false] rfl ?_
              exact ih (n + 1) ((mhunt1 G S n).2) M6 (by omega) hG6 hS6 hw6 (fun M99 hF99 hS99 => h M99 (hF6.tr hF99) (by rw [mbeM, e]; exact hS99))
            · skip
              refine xi_iload dX10_work_191 rfl ?_
              refine xb_if_ne ((mhunt1 G S n).1) 213 dX10_work_193 (by decide) rfl (fun h193 => ?_) (fun h193 => ?_)
              · skip
                refine xi_iinc (v := nI (n + 1)) (lv' := [some (.ref 0), some (.int (nI t)), some (.int (nI s)), some (.int (nI (n + 1))), some (.int (xb ((mhunt1 G S n).1)))]) dX10_work_213 rfl (xinc n) (by decide) rfl ?_
                refine xi_goto 136 dX10_work_216 (by decide) ?_
                have e : (if gkind G n = 1 ∨ gkind G n = 2 then mhuntL G n (if gkind G n = 2 then 2 else 1) S else S) = ((mhunt1 G S n).2) := by
                  rw [if_pos (by omega), if_pos (by omega), mhuntL_s (by simpa using h170)]
                  exact if_pos h193
                refine xi_drop [true, true, true, true, false] rfl ?_
                exact ih (n + 1) ((mhunt1 G S n).2) M6 (by omega) hG6 hS6 hw6 (fun M99 hF99 hS99 => h M99 (hF6.tr hF99) (by rw [mbeM, e]; exact hS99))
              · skip
                refine xi_aload_n dX10_work_196 rfl ?_
                refine xi_iload_n dX10_work_197 rfl ?_
                refine xi_iload_n dX10_work_198 rfl ?_
                refine xi_callV [.int (nI s), .int (nI n)] [] dX10_work_199 zX10_stands mlX10_161 mm0 rfl rfl rfl rfl rfl (Nat.le_of_ble_eq_true rfl) (Nat.le_of_ble_eq_true rfl) ⟨by decide, by decide⟩ ?_
                refine n_stands hW hG6 hs hS6 hw6 (n := n) (by omega) ?_
                show WP _ _ 202 _ [.int (xb (decide (0 < sL ((mhunt1 G S n).2) n)))] _ _
                refine xb_if_eq (decide (0 < sL ((mhunt1 G S n).2) n)) 213 dX10_work_202 (by decide) rfl (fun h202 => ?_) (fun h202 => ?_)
                · skip
                  refine xi_iinc (v := nI (n + 1)) (lv' := [some (.ref 0), some (.int (nI t)), some (.int (nI s)), some (.int (nI (n + 1))), some (.int (xb ((mhunt1 G S n).1)))]) dX10_work_213 rfl (xinc n) (by decide) rfl ?_
                  refine xi_goto 136 dX10_work_216 (by decide) ?_
                  have e : (if gkind G n = 1 ∨ gkind G n = 2 then mhuntL G n (if gkind G n = 2 then 2 else 1) S else S) = ((mhunt1 G S n).2) := by
                    rw [if_pos (by omega), if_pos (by omega), mhuntL_s (by simpa using h170)]
                    rw [if_neg (by simp [h193])]
                    exact mhuntL_0 (by simpa using h202) _
                  refine xi_drop [true, true, true, true, false] rfl ?_
                  exact ih (n + 1) ((mhunt1 G S n).2) M6 (by omega) hG6 hS6 hw6 (fun M99 hF99 hS99 => h M99 (hF6.tr hF99) (by rw [mbeM, e]; exact hS99))
                · skip
                  refine xi_aload_n dX10_work_205 rfl ?_
                  refine xi_iload_n dX10_work_206 rfl ?_
                  refine xi_iload_n dX10_work_207 rfl ?_
                  refine xi_callV [.int (nI s), .int (nI n)] [] dX10_work_208 zX10_hunt mlX10_223 mm0 rfl rfl rfl rfl rfl (Nat.le_of_ble_eq_true rfl) (Nat.le_of_ble_eq_true rfl) ⟨by decide, by decide⟩ ?_
                  refine n_hunt hW hG6 hs hS6 hw6 (n := n) (by omega) (by omega) (by omega) (fun M8 hF8 hS8 => ?_)
                  have hG8 : MG G M8 := MG.fm hG6 hF8
                  have hw8 : wS G ((mhunt1 G ((mhunt1 G S n).2) n).2) := wS_hunt1 hW hw6 (by omega) (by simpa using h202)
                  show WP _ _ 211 _ [.int (xb ((mhunt1 G ((mhunt1 G S n).2) n).1))] _ _
                  refine xi_istore (lv' := [some (.ref 0), some (.int (nI t)), some (.int (nI s)), some (.int (nI n)), some (.int (xb ((mhunt1 G ((mhunt1 G S n).2) n).1)))]) dX10_work_211 (by decide) rfl ?_
                  refine xi_iinc (v := nI (n + 1)) (lv' := [some (.ref 0), some (.int (nI t)), some (.int (nI s)), some (.int (nI (n + 1))), some (.int (xb ((mhunt1 G ((mhunt1 G S n).2) n).1)))]) dX10_work_213 rfl (xinc n) (by decide) rfl ?_
                  refine xi_goto 136 dX10_work_216 (by decide) ?_
                  have e : (if gkind G n = 1 ∨ gkind G n = 2 then mhuntL G n (if gkind G n = 2 then 2 else 1) S else S) = ((mhunt1 G ((mhunt1 G S n).2) n).2) := by
                    rw [if_pos (by omega), if_pos (by omega), mhuntL_s (by simpa using h170)]
                    rw [if_neg (by simp [h193])]
                    rw [mhuntL_s (by simpa using h202)]
                    split <;> rfl
                  refine xi_drop [true, true, true, true, false] rfl ?_
                  exact ih (n + 1) ((mhunt1 G ((mhunt1 G S n).2) n).2) M8 (by omega) hG8 hS8 hw8 (fun M99 hF99 hS99 => h M99 ((hF6.tr hF8).tr hF99) (by rw [mbeM, e]; exact hS99))

set_option maxHeartbeats 4000000 in
set_option maxRecDepth 100000 in
theorem nl_wen {G : xG} {s : Nat} {Q : Option Value → xM → Prop} (hW : wG G) (hs : s ≤ 56000) {t : Nat} (es : s = 112 * (t + 1)) : ∀ (f p : Nat) (S : xS) (M : xM), p + f = gP G → MG G M → RM G S M s → wS G S → (∀ M2, Fm s M M2 → RM G (menL G p f S) M2 s → WP shM mX10_work 323 [some (.ref 0), some (.int (nI t)), some (.int (nI s)), some (.int (nI (gP G))), none] [] M2 Q) → WP shM mX10_work 221 [some (.ref 0), some (.int (nI t)), some (.int (nI s)), some (.int (nI p)), none] [] M Q := by
  obtain ⟨b1, b2, b3, b4, b5, b6, b7, b8, b9, wmap, wlink, wk0, wk1, b10, b11, wword⟩ := id hW
  intro f
  induction f with
  | zero =>
    intro p S M hf hG hS hw h
    refine xi_iload_n dX10_work_221 rfl ?_
    refine xi_aload_n dX10_work_222 rfl ?_
    refine xe_getI (v := nI (gP G)) dX10_work_223 fgX10_16 mm0 rfl (mg_P hG) ?_
    refine xn_icmp_ge p (gP G) 323 dX10_work_226 (by decide) rfl rfl (by omega) (by omega) (fun h226 => ?_) (fun h226 => ?_)
    · skip
      have ei : p = gP G := by omega
      subst ei
      exact h M Fm.rf hS
    · omega
  | succ f ih =>
    intro p S M hf hG hS hw h
    refine xi_iload_n dX10_work_221 rfl ?_
    refine xi_aload_n dX10_work_222 rfl ?_
    refine xe_getI (v := nI (gP G)) dX10_work_223 fgX10_16 mm0 rfl (mg_P hG) ?_
    refine xn_icmp_ge p (gP G) 323 dX10_work_226 (by decide) rfl rfl (by omega) (by omega) (fun h226 => ?_) (fun h226 => ?_)
    · omega
    · skip
      have hp : p < gP G := by omega
      refine xi_aload_n dX10_work_229 rfl ?_
      refine xi_getR dX10_work_230 fgX10_39 mm0 rfl ?_
      refine xi_iload_n dX10_work_233 rfl ?_
      refine xi_bipush (v := 6) dX10_work_234 (by decide) ?_
      refine xi_iload_n dX10_work_236 rfl ?_
      refine xe_imul dX10_work_237 (v := nI (6 * p)) (pk_mul 6 p) ?_
      refine xe_iadd dX10_work_238 (v := nI (s + (6 * p))) (nI_add s (6 * p)) ?_
      refine xi_iconst (v := 4) dX10_work_239 rfl ?_
      refine xe_iadd dX10_work_240 (v := nI (s + (6 * p) + 4)) (nI_add (s + (6 * p)) 4) ?_
      obtain ⟨o1, ho1⟩ : ∃ o, o = sH S p := ⟨_, rfl⟩
      refine xe_iald (v := xo o1) (s + (6 * p) + 4) dX10_work_241 mm5 (by decide) rfl (by omega) (by rw [ho1]; exact rmH hS (by omega)) ?_
      refine xi_istore (lv' := [some (.ref 0), some (.int (nI t)), some (.int (nI s)), some (.int (nI p)), some (.int (xo o1))]) dX10_work_242 (by decide) rfl ?_
      refine xat 244 rfl ?_
      refine xi_aload_n dX10_work_244 rfl ?_
      refine xi_getR dX10_work_245 fgX10_39 mm0 rfl ?_
      refine xi_iload_n dX10_work_248 rfl ?_
      refine xi_bipush (v := 104) dX10_work_249 (by decide) ?_
      refine xe_iadd dX10_work_251 (v := nI (s + 104)) (nI_add s 104) ?_
      refine xi_iload_n dX10_work_252 rfl ?_
      refine xe_iadd dX10_work_253 (v := nI (s + 104 + p)) (nI_add (s + 104) p) ?_
      refine xi_dup2 dX10_work_254 rfl rfl ?_
      refine xe_iald (v := sP S p) (s + 104 + p) dX10_work_255 mm5 (by decide) rfl (by omega) (rmP hS (by omega)) ?_
      refine xi_iload dX10_work_256 rfl ?_
      have hox := ho1
      refine xo_if_lt o1 277 dX10_work_258 (by decide) rfl (fun j q => by have := hw.2.2.2.2 p hp j (hox.symm.trans q); omega) (fun h258 => ?_) (fun j h258 => ?_)
      · subst h258
        refine xi_iconst (v := 0) dX10_work_277 rfl ?_
        refine xi_iadd dX10_work_278 ?_
        refine xe_iast (s + 104 + p) dX10_work_279 mm5 (by decide) rfl (by omega) ?_
        generalize eM3 : (xa M 5 (upd (M.2.1 5) (s + 104 + p) (sP S p + 0))) = M3
        have hS3 : RM G (uP S p (sP S p + 0)) M3 s := by rw [← eM3]; exact rmuP hW hS (by omega) (sP S p + 0)
        have hF3 : Fm s M M3 := by rw [← eM3]; exact Fm.xa (by omega) (by omega)
        have hG3 : MG G M3 := MG.fm hG hF3
        have hw3 : wS G (uP S p (sP S p + 0)) := (wS_uP hw)
        refine xi_aload_n dX10_work_280 rfl ?_
        refine xi_getR dX10_work_281 fgX10_39 mm0 rfl ?_
        refine xi_iload_n dX10_work_284 rfl ?_
        refine xi_bipush (v := 6) dX10_work_285 (by decide) ?_
        refine xi_iload_n dX10_work_287 rfl ?_
        refine xe_imul dX10_work_288 (v := nI (6 * p)) (pk_mul 6 p) ?_
        refine xe_iadd dX10_work_289 (v := nI (s + (6 * p))) (nI_add s (6 * p)) ?_
        refine xi_iconst (v := 3) dX10_work_290 rfl ?_
        refine xat 291 rfl ?_
        refine xe_iadd dX10_work_291 (v := nI (s + (6 * p) + 3)) (nI_add (s + (6 * p)) 3) ?_
        refine xi_dup2 dX10_work_292 rfl rfl ?_
        have q4 := (hw3).2.2.2.1 p (by omega)
        refine xe_iald (v := nI (sR (uP S p (sP S p + 0)) p)) (s + (6 * p) + 3) dX10_work_293 mm5 (by decide) rfl (by omega) (rmR hS3 (by omega)) ?_
        refine xi_aload_n dX10_work_294 rfl ?_
        refine xi_getR dX10_work_295 fgX10_39 mm0 rfl ?_
        refine xi_iload_n dX10_work_298 rfl ?_
        refine xi_bipush (v := 6) dX10_work_299 (by decide) ?_
        refine xi_iload_n dX10_work_301 rfl ?_
        refine xe_imul dX10_work_302 (v := nI (6 * p)) (pk_mul 6 p) ?_
        refine xe_iadd dX10_work_303 (v := nI (s + (6 * p))) (nI_add s (6 * p)) ?_
        refine xi_iconst (v := 3) dX10_work_304 rfl ?_
        refine xe_iadd dX10_work_305 (v := nI (s + (6 * p) + 3)) (nI_add (s + (6 * p)) 3) ?_
        refine xat 306 rfl ?_
        have q5 := (hw3).2.2.2.1 p (by omega)
        refine xe_iald (v := nI (sR (uP S p (sP S p + 0)) p)) (s + (6 * p) + 3) dX10_work_306 mm5 (by decide) rfl (by omega) (rmR hS3 (by omega)) ?_
        refine xn_if_le (sR (uP S p (sP S p + 0)) p) 314 dX10_work_307 (by decide) rfl (by omega) (fun h307 => ?_) (fun h307 => ?_)
        · skip
          refine xi_iconst (v := 0) dX10_work_314 rfl ?_
          refine xe_isub dX10_work_315 (v := nI (sR (uP S p (sP S p + 0)) p - 0)) (pk_sub (b := 0) (by omega)) ?_
          refine xe_iast (s + (6 * p) + 3) dX10_work_316 mm5 (by decide) rfl (by omega) ?_
          generalize eM6 : (xa M3 5 (upd (M3.2.1 5) (s + (6 * p) + 3) (nI (sR (uP S p (sP S p + 0)) p - 0)))) = M6
          have hS6 : RM G (uR (uP S p (sP S p + 0)) p (sR (uP S p (sP S p + 0)) p - 0)) M6 s := by rw [← eM6]; exact rmuR hW hS3 (by omega) (sR (uP S p (sP S p + 0)) p - 0)
          have hF6 : Fm s M3 M6 := by rw [← eM6]; exact Fm.xa (by omega) (by omega)
          have hG6 : MG G M6 := MG.fm hG3 hF6
          have hw6 : wS G (uR (uP S p (sP S p + 0)) p (sR (uP S p (sP S p + 0)) p - 0)) := (wS_uR hw3 (by omega))
          refine xi_iinc (v := nI (p + 1)) (lv' := [some (.ref 0), some (.int (nI t)), some (.int (nI s)), some (.int (nI (p + 1))), some (.int (xo none))]) dX10_work_317 rfl (xinc p) (by decide) rfl ?_
          refine xi_goto 221 dX10_work_320 (by decide) ?_
          have e1 : men1 G p S = (uP S p (sP S p + 0)) := by
            unfold men1 mcar
            rw [← hox, uP_self (Int32.add_zero _)]
            rfl
          have e : men2 p (men1 G p S) = (uR (uP S p (sP S p + 0)) p (sR (uP S p (sP S p + 0)) p - 0)) := by
            rw [e1, men2]
            rw [if_neg (by omega), uR_self (by omega)]
          refine xi_drop [true, true, true, true, false] rfl ?_
          exact ih (p + 1) (uR (uP S p (sP S p + 0)) p (sR (uP S p (sP S p + 0)) p - 0)) M6 (by omega) hG6 hS6 hw6 (fun M99 hF99 hS99 => h M99 ((hF3.tr hF6).tr hF99) (by rw [menL, e]; exact hS99))
        · skip
          refine xi_iconst (v := 1) dX10_work_310 rfl ?_
          refine xi_goto 315 dX10_work_311 (by decide) ?_
          refine xe_isub dX10_work_315 (v := nI (sR (uP S p (sP S p + 0)) p - 1)) (pk_sub (b := 1) (by omega)) ?_
          refine xe_iast (s + (6 * p) + 3) dX10_work_316 mm5 (by decide) rfl (by omega) ?_
          generalize eM7 : (xa M3 5 (upd (M3.2.1 5) (s + (6 * p) + 3) (nI (sR (uP S p (sP S p + 0)) p - 1)))) = M7
          have hS7 : RM G (uR (uP S p (sP S p + 0)) p (sR (uP S p (sP S p + 0)) p - 1)) M7 s := by rw [← eM7]; exact rmuR hW hS3 (by omega) (sR (uP S p (sP S p + 0)) p - 1)
          have hF7 : Fm s M3 M7 := by rw [← eM7]; exact Fm.xa (by omega) (by omega)
          have hG7 : MG G M7 := MG.fm hG3 hF7
          have hw7 : wS G (uR (uP S p (sP S p + 0)) p (sR (uP S p (sP S p + 0)) p - 1)) := (wS_uR hw3 (by omega))
          refine xi_iinc (v := nI (p + 1)) (lv' := [some (.ref 0), some (.int (nI t)), some (.int (nI s)), some (.int (nI (p + 1))), some (.int (xo none))]) dX10_work_317 rfl (xinc p) (by decide) rfl ?_
          refine xi_goto 221 dX10_work_320 (by decide) ?_
          have e1 : men1 G p S = (uP S p (sP S p + 0)) := by
            unfold men1 mcar
            rw [← hox, uP_self (Int32.add_zero _)]
            rfl
          have e : men2 p (men1 G p S) = (uR (uP S p (sP S p + 0)) p (sR (uP S p (sP S p + 0)) p - 1)) := by
            rw [e1, men2]
            exact if_pos (by omega)
          refine xi_drop [true, true, true, true, false] rfl ?_
          exact ih (p + 1) (uR (uP S p (sP S p + 0)) p (sR (uP S p (sP S p + 0)) p - 1)) M7 (by omega) hG7 hS7 hw7 (fun M99 hF99 hS99 => h M99 ((hF3.tr hF7).tr hF99) (by rw [menL, e]; exact hS99))
      · subst h258
        have hj := hw.2.2.2.2 p hp j hox.symm
        refine xi_aload_n dX10_work_261 rfl ?_
        refine xi_getR dX10_work_262 fgX10_29 mm0 rfl ?_
        refine xi_iload dX10_work_265 rfl ?_
        have q8 : gkind G j ≤ 7 := hW.kind (by omega)
        refine xe_iald (v := nI (gkind G j)) j dX10_work_267 mm4 (by decide) rfl (by omega) (mg_kind hG (by omega)) ?_
        refine xi_bipush (v := 7) dX10_work_268 (by decide) ?_
        refine xn_icmp_ne (gkind G j) 7 277 dX10_work_270 (by decide) rfl rfl (by omega) (by omega) (fun h270 => ?_) (fun h270 => ?_)
        · skip
          refine xi_iconst (v := 0) dX10_work_277 rfl ?_
          refine xi_iadd dX10_work_278 ?_
          refine xe_iast (s + 104 + p) dX10_work_279 mm5 (by decide) rfl (by omega) ?_
          generalize eM9 : (xa M 5 (upd (M.2.1 5) (s + 104 + p) (sP S p + 0))) = M9
          have hS9 : RM G (uP S p (sP S p + 0)) M9 s := by rw [← eM9]; exact rmuP hW hS (by omega) (sP S p + 0)
          have hF9 : Fm s M M9 := by rw [← eM9]; exact Fm.xa (by omega) (by omega)
          have hG9 : MG G M9 := MG.fm hG hF9
          have hw9 : wS G (uP S p (sP S p + 0)) := (wS_uP hw)
          refine xi_aload_n dX10_work_280 rfl ?_
          refine xi_getR dX10_work_281 fgX10_39 mm0 rfl ?_
          refine xi_iload_n dX10_work_284 rfl ?_
          refine xi_bipush (v := 6) dX10_work_285 (by decide) ?_
          refine xi_iload_n dX10_work_287 rfl ?_
          refine xe_imul dX10_work_288 (v := nI (6 * p)) (pk_mul 6 p) ?_
          refine xe_iadd dX10_work_289 (v := nI (s + (6 * p))) (nI_add s (6 * p)) ?_
          refine xi_iconst (v := 3) dX10_work_290 rfl ?_
          refine xat 291 rfl ?_
          refine xe_iadd dX10_work_291 (v := nI (s + (6 * p) + 3)) (nI_add (s + (6 * p)) 3) ?_
          refine xi_dup2 dX10_work_292 rfl rfl ?_
          have q10 := (hw9).2.2.2.1 p (by omega)
          refine xe_iald (v := nI (sR (uP S p (sP S p + 0)) p)) (s + (6 * p) + 3) dX10_work_293 mm5 (by decide) rfl (by omega) (rmR hS9 (by omega)) ?_
          refine xi_aload_n dX10_work_294 rfl ?_
          refine xi_getR dX10_work_295 fgX10_39 mm0 rfl ?_
          refine xi_iload_n dX10_work_298 rfl ?_
          refine xi_bipush (v := 6) dX10_work_299 (by decide) ?_
          refine xi_iload_n dX10_work_301 rfl ?_
          refine xe_imul dX10_work_302 (v := nI (6 * p)) (pk_mul 6 p) ?_
          refine xe_iadd dX10_work_303 (v := nI (s + (6 * p))) (nI_add s (6 * p)) ?_
          refine xi_iconst (v := 3) dX10_work_304 rfl ?_
          refine xe_iadd dX10_work_305 (v := nI (s + (6 * p) + 3)) (nI_add (s + (6 * p)) 3) ?_
          refine xat 306 rfl ?_
          have q11 := (hw9).2.2.2.1 p (by omega)
          refine xe_iald (v := nI (sR (uP S p (sP S p + 0)) p)) (s + (6 * p) + 3) dX10_work_306 mm5 (by decide) rfl (by omega) (rmR hS9 (by omega)) ?_
          refine xn_if_le (sR (uP S p (sP S p + 0)) p) 314 dX10_work_307 (by decide) rfl (by omega) (fun h307 => ?_) (fun h307 => ?_)
          · skip
            refine xi_iconst (v := 0) dX10_work_314 rfl ?_
            refine xe_isub dX10_work_315 (v := nI (sR (uP S p (sP S p + 0)) p - 0)) (pk_sub (b := 0) (by omega)) ?_
            refine xe_iast (s + (6 * p) + 3) dX10_work_316 mm5 (by decide) rfl (by omega) ?_
            generalize eM12 : (xa M9 5 (upd (M9.2.1 5) (s + (6 * p) + 3) (nI (sR (uP S p (sP S p + 0)) p - 0)))) = M12
            have hS12 : RM G (uR (uP S p (sP S p + 0)) p (sR (uP S p (sP S p + 0)) p - 0)) M12 s := by rw [← eM12]; exact rmuR hW hS9 (by omega) (sR (uP S p (sP S p + 0)) p - 0)
            have hF12 : Fm s M9 M12 := by rw [← eM12]; exact Fm.xa (by omega) (by omega)
            have hG12 : MG G M12 := MG.fm hG9 hF12
            have hw12 : wS G (uR (uP S p (sP S p + 0)) p (sR (uP S p (sP S p + 0)) p - 0)) := (wS_uR hw9 (by omega))
            refine xi_iinc (v := nI (p + 1)) (lv' := [some (.ref 0), some (.int (nI t)), some (.int (nI s)), some (.int (nI (p + 1))), some (.int (xo (some j)))]) dX10_work_317 rfl (xinc p) (by decide) rfl ?_
            refine xi_goto 221 dX10_work_320 (by decide) ?_
            have e1 : men1 G p S = (uP S p (sP S p + 0)) := by
              unfold men1 mcar
              rw [← hox, uP_self (Int32.add_zero _)]
              exact if_neg (by simpa using h270)
            have e : men2 p (men1 G p S) = (uR (uP S p (sP S p + 0)) p (sR (uP S p (sP S p + 0)) p - 0)) := by
              rw [e1, men2]
              rw [if_neg (by omega), uR_self (by omega)]
            refine xi_drop [true, true, true, true, false] rfl ?_
            exact ih (p + 1) (uR (uP S p (sP S p + 0)) p (sR (uP S p (sP S p + 0)) p - 0)) M12 (by omega) hG12 hS12 hw12 (fun M99 hF99 hS99 => h M99 ((hF9.tr hF12).tr hF99) (by rw [menL, e]; exact hS99))
          · skip
            refine xi_iconst (v := 1) dX10_work_310 rfl ?_
            refine xi_goto 315 dX10_work_311 (by decide) ?_
            refine xe_isub dX10_work_315 (v := nI (sR (uP S p (sP S p + 0)) p - 1)) (pk_sub (b := 1) (by omega)) ?_
            refine xe_iast (s + (6 * p) + 3) dX10_work_316 mm5 (by decide) rfl (by omega) ?_
            generalize eM13 : (xa M9 5 (upd (M9.2.1 5) (s + (6 * p) + 3) (nI (sR (uP S p (sP S p + 0)) p - 1)))) = M13
            have hS13 : RM G (uR (uP S p (sP S p + 0)) p (sR (uP S p (sP S p + 0)) p - 1)) M13 s := by rw [← eM13]; exact rmuR hW hS9 (by omega) (sR (uP S p (sP S p + 0)) p - 1)
            have hF13 : Fm s M9 M13 := by rw [← eM13]; exact Fm.xa (by omega) (by omega)
            have hG13 : MG G M13 := MG.fm hG9 hF13
            have hw13 : wS G (uR (uP S p (sP S p + 0)) p (sR (uP S p (sP S p + 0)) p - 1)) := (wS_uR hw9 (by omega))
            refine xi_iinc (v := nI (p + 1)) (lv' := [some (.ref 0), some (.int (nI t)), some (.int (nI s)), some (.int (nI (p + 1))), some (.int (xo (some j)))]) dX10_work_317 rfl (xinc p) (by decide) rfl ?_
            refine xi_goto 221 dX10_work_320 (by decide) ?_
            have e1 : men1 G p S = (uP S p (sP S p + 0)) := by
              unfold men1 mcar
              rw [← hox, uP_self (Int32.add_zero _)]
              exact if_neg (by simpa using h270)
            have e : men2 p (men1 G p S) = (uR (uP S p (sP S p + 0)) p (sR (uP S p (sP S p + 0)) p - 1)) := by
              rw [e1, men2]
              exact if_pos (by omega)
            refine xi_drop [true, true, true, true, false] rfl ?_
            exact ih (p + 1) (uR (uP S p (sP S p + 0)) p (sR (uP S p (sP S p + 0)) p - 1)) M13 (by omega) hG13 hS13 hw13 (fun M99 hF99 hS99 => h M99 ((hF9.tr hF13).tr hF99) (by rw [menL, e]; exact hS99))
        · skip
          refine xi_iconst (v := 1) dX10_work_273 rfl ?_
          refine xi_goto 278 dX10_work_274 (by decide) ?_
          refine xi_iadd dX10_work_278 ?_
          refine xe_iast (s + 104 + p) dX10_work_279 mm5 (by decide) rfl (by omega) ?_
          generalize eM14 : (xa M 5 (upd (M.2.1 5) (s + 104 + p) (sP S p + 1))) = M14
          have hS14 : RM G (uP S p (sP S p + 1)) M14 s := by rw [← eM14]; exact rmuP hW hS (by omega) (sP S p + 1)
          have hF14 : Fm s M M14 := by rw [← eM14]; exact Fm.xa (by omega) (by omega)
          have hG14 : MG G M14 := MG.fm hG hF14
          have hw14 : wS G (uP S p (sP S p + 1)) := (wS_uP hw)
          refine xi_aload_n dX10_work_280 rfl ?_
          refine xi_getR dX10_work_281 fgX10_39 mm0 rfl ?_
          refine xi_iload_n dX10_work_284 rfl ?_
          refine xi_bipush (v := 6) dX10_work_285 (by decide) ?_
          refine xi_iload_n dX10_work_287 rfl ?_
          refine xe_imul dX10_work_288 (v := nI (6 * p)) (pk_mul 6 p) ?_
          refine xe_iadd dX10_work_289 (v := nI (s + (6 * p))) (nI_add s (6 * p)) ?_
          refine xi_iconst (v := 3) dX10_work_290 rfl ?_
          refine xe_iadd dX10_work_291 (v := nI (s + (6 * p) + 3)) (nI_add (s + (6 * p)) 3) ?_
          refine xat 292 rfl ?_
          refine xi_dup2 dX10_work_292 rfl rfl ?_
          have q15 := (hw14).2.2.2.1 p (by omega)
          refine xe_iald (v := nI (sR (uP S p (sP S p + 1)) p)) (s + (6 * p) + 3) dX10_work_293 mm5 (by decide) rfl (by omega) (rmR hS14 (by omega)) ?_
          refine xi_aload_n dX10_work_294 rfl ?_
          refine xi_getR dX10_work_295 fgX10_39 mm0 rfl ?_
          refine xi_iload_n dX10_work_298 rfl ?_
          refine xi_bipush (v := 6) dX10_work_299 (by decide) ?_
          refine xi_iload_n dX10_work_301 rfl ?_
          refine xe_imul dX10_work_302 (v := nI (6 * p)) (pk_mul 6 p) ?_
          refine xe_iadd dX10_work_303 (v := nI (s + (6 * p))) (nI_add s (6 * p)) ?_
          refine xi_iconst (v := 3) dX10_work_304 rfl ?_
          refine xe_iadd dX10_work_305 (v := nI (s + (6 * p) + 3)) (nI_add (s + (6 * p)) 3) ?_
          have q16 := (hw14).2.2.2.1 p (by omega)
          refine xe_iald (v := nI (sR (uP S p (sP S p + 1)) p)) (s + (6 * p) + 3) dX10_work_306 mm5 (by decide) rfl (by omega) (rmR hS14 (by omega)) ?_
          refine xat 307 rfl ?_
          refine xn_if_le (sR (uP S p (sP S p + 1)) p) 314 dX10_work_307 (by decide) rfl (by omega) (fun h307 => ?_) (fun h307 => ?_)
          · skip
            refine xi_iconst (v := 0) dX10_work_314 rfl ?_
            refine xe_isub dX10_work_315 (v := nI (sR (uP S p (sP S p + 1)) p - 0)) (pk_sub (b := 0) (by omega)) ?_
            refine xe_iast (s + (6 * p) + 3) dX10_work_316 mm5 (by decide) rfl (by omega) ?_
            generalize eM17 : (xa M14 5 (upd (M14.2.1 5) (s + (6 * p) + 3) (nI (sR (uP S p (sP S p + 1)) p - 0)))) = M17
            have hS17 : RM G (uR (uP S p (sP S p + 1)) p (sR (uP S p (sP S p + 1)) p - 0)) M17 s := by rw [← eM17]; exact rmuR hW hS14 (by omega) (sR (uP S p (sP S p + 1)) p - 0)
            have hF17 : Fm s M14 M17 := by rw [← eM17]; exact Fm.xa (by omega) (by omega)
            have hG17 : MG G M17 := MG.fm hG14 hF17
            have hw17 : wS G (uR (uP S p (sP S p + 1)) p (sR (uP S p (sP S p + 1)) p - 0)) := (wS_uR hw14 (by omega))
            refine xi_iinc (v := nI (p + 1)) (lv' := [some (.ref 0), some (.int (nI t)), some (.int (nI s)), some (.int (nI (p + 1))), some (.int (xo (some j)))]) dX10_work_317 rfl (xinc p) (by decide) rfl ?_
            refine xi_goto 221 dX10_work_320 (by decide) ?_
            have e1 : men1 G p S = (uP S p (sP S p + 1)) := by
              unfold men1 mcar
              rw [← hox]
              exact if_pos (by simpa using h270)
            have e : men2 p (men1 G p S) = (uR (uP S p (sP S p + 1)) p (sR (uP S p (sP S p + 1)) p - 0)) := by
              rw [e1, men2]
              rw [if_neg (by omega), uR_self (by omega)]
            refine xi_drop [true, true, true, true, false] rfl ?_
            exact ih (p + 1) (uR (uP S p (sP S p + 1)) p (sR (uP S p (sP S p + 1)) p - 0)) M17 (by omega) hG17 hS17 hw17 (fun M99 hF99 hS99 => h M99 ((hF14.tr hF17).tr hF99) (by rw [menL, e]; exact hS99))
          · skip
            refine xi_iconst (v := 1) dX10_work_310 rfl ?_
            refine xi_goto 315 dX10_work_311 (by decide) ?_
            refine xe_isub dX10_work_315 (v := nI (sR (uP S p (sP S p + 1)) p - 1)) (pk_sub (b := 1) (by omega)) ?_
            refine xe_iast (s + (6 * p) + 3) dX10_work_316 mm5 (by decide) rfl (by omega) ?_
            generalize eM18 : (xa M14 5 (upd (M14.2.1 5) (s + (6 * p) + 3) (nI (sR (uP S p (sP S p + 1)) p - 1)))) = M18
            have hS18 : RM G (uR (uP S p (sP S p + 1)) p (sR (uP S p (sP S p + 1)) p - 1)) M18 s := by rw [← eM18]; exact rmuR hW hS14 (by omega) (sR (uP S p (sP S p + 1)) p - 1)
            have hF18 : Fm s M14 M18 := by rw [← eM18]; exact Fm.xa (by omega) (by omega)
            have hG18 : MG G M18 := MG.fm hG14 hF18
            have hw18 : wS G (uR (uP S p (sP S p + 1)) p (sR (uP S p (sP S p + 1)) p - 1)) := (wS_uR hw14 (by omega))
            refine xi_iinc (v := nI (p + 1)) (lv' := [some (.ref 0), some (.int (nI t)), some (.int (nI s)), some (.int (nI (p + 1))), some (.int (xo (some j)))]) dX10_work_317 rfl (xinc p) (by decide) rfl ?_
            refine xi_goto 221 dX10_work_320 (by decide) ?_
            have e1 : men1 G p S = (uP S p (sP S p + 1)) := by
              unfold men1 mcar
              rw [← hox]
              exact if_pos (by simpa using h270)
            have e : men2 p (men1 G p S) = (uR (uP S p (sP S p + 1)) p (sR (uP S p (sP S p + 1)) p - 1)) := by
              rw [e1, men2]
              exact if_pos (by omega)
            refine xi_drop [true, true, true, true, false] rfl ?_
            exact ih (p + 1) (uR (uP S p (sP S p + 1)) p (sR (uP S p (sP S p + 1)) p - 1)) M18 (by omega) hG18 hS18 hw18 (fun M99 hF99 hS99 => h M99 ((hF14.tr hF18).tr hF99) (by rw [menL, e]; exact hS99))

set_option maxHeartbeats 4000000 in
set_option maxRecDepth 100000 in
theorem n_work {G : xG} {S : xS} {M : xM} {s : Nat} {Q : Option Value → xM → Prop} (hW : wG G) (hG : MG G M) (hs : s ≤ 56000) {t : Nat} (es : s = 112 * (t + 1)) (hS : RM G S M (112 * t)) (hw : wS G S) {A H : Nat → Nat} (wA_ : wA A) (hA : MA A M) (hH : MH H M) (h : ∀ M2, Fh s M M2 → RM G (mtick G A t S) M2 s → MH (mtH G A t S H) M2 → Q none M2) : WP shM mX10_work 0 [some (.ref 0), some (.int (nI t)), none, none, none] [] M Q := by
  obtain ⟨b1, b2, b3, b4, b5, b6, b7, b8, b9, wmap, wlink, wk0, wk1, b10, b11, wword⟩ := id hW
  refine xi_bipush (v := 112) dX10_work_0 (by decide) ?_
  refine xi_iload_n dX10_work_2 rfl ?_
  refine xi_iconst (v := 1) dX10_work_3 rfl ?_
  refine xe_iadd dX10_work_4 (v := nI (t + 1)) (nI_add t 1) ?_
  refine xe_imul dX10_work_5 (v := nI s) ((pk_mul 112 (t + 1)).trans (congrArg nI es.symm)) ?_
  refine xi_istore_n (lv' := [some (.ref 0), some (.int (nI t)), some (.int (nI s)), none, none]) dX10_work_6 (by decide) rfl ?_
  refine xi_iconst (v := 0) dX10_work_7 rfl ?_
  refine xi_istore_n (lv' := [some (.ref 0), some (.int (nI t)), some (.int (nI s)), some (.int 0), none]) dX10_work_8 (by decide) rfl ?_
  refine nl_wcopy hs es 112 0 M (by omega) (fun j hj => by omega) (fun M1 f1 c1 => ?_)
  have hS1 : RM G S M1 s := RM.mv hW hS (fun j hj => by rw [c1 j hj, show s - 112 + j = 112 * t + j by omega]; exact f1.2.2.2 _ (by omega))
  have hG1 : MG G M1 := hG.fm f1
  refine xi_iconst (v := 0) dX10_work_40 rfl ?_
  refine xi_istore_n (lv' := [some (.ref 0), some (.int (nI t)), some (.int (nI s)), some (.int (nI 0)), none]) dX10_work_41 (by decide) rfl ?_
  refine nl_wbod hW hs es wA_ (gP G) 0 S H M1 (by omega) hG1 hS1 hw (hA.fh f1.fh) (hH.fm f1) (fun M2 f2 hS2 hH2 => ?_)
  have hG2 : MG G M2 := hG1.fh f2
  have hw2 := wS_bodies (A := A) (t := t) (H := H) hW hw
  refine xi_iconst (v := 0) dX10_work_134 rfl ?_
  refine xi_istore_n (lv' := [some (.ref 0), some (.int (nI t)), some (.int (nI s)), some (.int (nI 0)), none]) dX10_work_135 (by decide) rfl ?_
  refine nl_wbe hW hs es (gT G) 0 _ M2 (by omega) hG2 hS2 hw2 (fun M3 f3 hS3 => ?_)
  have hG3 : MG G M3 := hG2.fm f3
  replace hS3 : RM G (mbeM G 0 (gT G) (mbodies G A t S H).1) M3 s := hS3
  rw [mbeM_lo hW (gT G) 0 _ (by omega) (by omega) hw2] at hS3
  have hw3 := wS_beasts hW hw2
  refine xi_iconst (v := 0) dX10_work_219 rfl ?_
  refine xi_istore_n (lv' := [some (.ref 0), some (.int (nI t)), some (.int (nI s)), some (.int (nI 0)), none]) dX10_work_220 (by decide) rfl ?_
  refine nl_wen hW hs es (gP G) 0 _ M3 (by omega) hG3 hS3 hw3 (fun M4 f4 hS4 => ?_)
  have hG4 : MG G M4 := hG3.fm f4
  have hw4 := wS_enL (G := G) (gP G) 0 _ (by omega) hw3
  refine xi_aload_n dX10_work_323 rfl ?_
  refine xi_iload_n dX10_work_324 rfl ?_
  refine xi_callV [.int (nI s)] [] dX10_work_325 zX10_learn mlX10_152 mm0 rfl rfl rfl rfl rfl (Nat.le_of_ble_eq_true rfl) (Nat.le_of_ble_eq_true rfl) ⟨by decide, by decide⟩ ?_
  refine n_learn hW hG4 hs hS4 hw4 (fun M5 f5 hS5 => ?_)
  refine xi_vret dX10_work_328 rfl ?_
  refine h M5 (((((f1.fh.tr f2).tr f3.fh).tr f4.fh).tr f5.fh)) ?_ ?_
  · rw [← mbodies_S H]; exact hS5
  · exact ((hH2.fm f3).fm f4).fm f5

