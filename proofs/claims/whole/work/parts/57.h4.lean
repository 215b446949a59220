def Fk8 (r : Nat) (M M2 : xM) : Prop := Fr r M M2 ∧ ∀ a, ¬ a = r + 8 → M2.2.1 a = M.2.1 a
theorem Fk8.rf {r : Nat} {M : xM} : Fk8 r M M := ⟨Fr.rf, fun _ _ => rfl⟩
theorem Fk8.tr {r : Nat} {M M1 M2 : xM} (h : Fk8 r M M1) (h2 : Fk8 r M1 M2) : Fk8 r M M2 := ⟨h.1.tr h2.1, fun a ha => (h2.2 a ha).trans (h.2 a ha)⟩
theorem Fk8.xa {r : Nat} {M : xM} {f : Nat → Int32} : Fk8 r M (xa M (r + 8) f) := ⟨Fr.xa (by decide) (by decide), fun _ ha => xa_n ha⟩
def Fm8 (s : Nat) (M M2 : xM) : Prop := Fm s M M2 ∧ ∀ i, i < s + 108 → M2.2.1 5 i = M.2.1 5 i
theorem Fm8.rf {s : Nat} {M : xM} : Fm8 s M M := ⟨Fm.rf, fun _ _ => rfl⟩
theorem Fm8.tr {s : Nat} {M M1 M2 : xM} (h : Fm8 s M M1) (h2 : Fm8 s M1 M2) : Fm8 s M M2 := ⟨h.1.tr h2.1, fun a ha => (h2.2 a ha).trans (h.2 a ha)⟩
theorem Fm8.xa {s p : Nat} {M : xM} {v : Int32} (hp : p < 4) : Fm8 s M (xa M 5 (upd (M.2.1 5) (s + 108 + p) v)) := ⟨Fm.xa (by omega) (by omega), fun i hi => by rw [xa_s, upd_n (by omega)]⟩
theorem xfl_life {q : Nat} (hq : q ≤ 7) : xfl q = nI (mlife q) := by
  rcases (show q = 0 ∨ q = 1 ∨ q = 2 ∨ q = 3 ∨ q = 4 ∨ q = 5 ∨ q = 6 ∨ q = 7 by omega) with rfl | rfl | rfl | rfl | rfl | rfl | rfl | rfl <;> rfl
def mst (A : Nat → Nat) : Nat → Nat → Bool → Bool
  | _, 0, b => b
  | i, f + 1, b => if b = true then true else mst A (i + 1) f (decide (¬ A i = 4096))
theorem mst_t {A : Nat → Nat} : ∀ (f i : Nat), mst A i f true = true
  | 0, _ => rfl
  | f + 1, i => by rw [mst, if_pos rfl]
theorem mst_f {A : Nat → Nat} : ∀ (f i : Nat), mst A i f false = true ↔ ∃ j, i ≤ j ∧ j < i + f ∧ ¬ A j = 4096
  | 0, i => by
    constructor
    · intro h; cases h
    · rintro ⟨j, h1, h2, -⟩; omega
  | f + 1, i => by
    rw [mst, if_neg (by decide)]
    by_cases e : A i = 4096
    · rw [decide_eq_false (by simp [e]), mst_f f (i + 1)]
      constructor
      · rintro ⟨j, h1, h2, h3⟩; exact ⟨j, by omega, by omega, h3⟩
      · rintro ⟨j, h1, h2, h3⟩
        refine ⟨j, ?_, by omega, h3⟩
        by_cases q : j = i
        · subst q; exact absurd e h3
        · omega
    · rw [decide_eq_true e, mst_t]
      exact ⟨fun _ => ⟨i, by omega, by omega, e⟩, fun _ => rfl⟩
theorem mst_cnt {A : Nat → Nat} {b : Bool} : mst A 0 2000 b = (b || decide (0 < mcnt A 2000)) := by
  cases b with
  | true => rw [mst_t]; rfl
  | false =>
    have h := mst_f (A := A) 2000 0
    by_cases q : 0 < mcnt A 2000
    · rw [decide_eq_true q, Bool.or_true, h]
      by_cases z : ∃ j, 0 ≤ j ∧ j < 0 + 2000 ∧ ¬ A j = 4096
      · exact z
      · refine absurd ((mcnt_0 (A := A) 2000).mpr (fun i hi => ?_)) (Nat.ne_of_gt q)
        by_cases y : A i = 4096
        · exact y
        · exact absurd ⟨i, by omega, by omega, y⟩ z
    · rw [decide_eq_false q, Bool.or_false]
      have h0 := (mcnt_0 (A := A) 2000).mp (by omega)
      cases e : mst A 0 2000 false with
      | false => rfl
      | true =>
        obtain ⟨j, h1, h2, h3⟩ := h.mp e
        exact absurd (h0 j (by omega)) h3
set_option maxHeartbeats 4000000 in
set_option maxRecDepth 100000 in
theorem l_platesK {G : xG} {r : Nat} {Q : Option Value → xM → Prop} (hW : wG G) (hr : isSt r) : ∀ (f p : Nat) (S : xS) (M : xM), p + f = gP G → CG G M → CS G S M r → wS G S → (∀ M2, Fk8 r M M2 → CS G (mplL G p f S) M2 r → Q none M2) → WP shC mX6_readPlates 2 [some (.ref r), some (.int (nI p))] [] M Q := by
  obtain ⟨b1, b2, b3, b4, b5, b6, b7, b8, b9, wmap, wlink, wk0, wk1, b10, b11, wword⟩ := id hW
  intro f
  induction f with
  | zero =>
    intro p S M hf hG hS hw h
    refine xi_iload_n dX6_readPlates_2 rfl ?_
    refine xi_aload_n dX6_readPlates_3 rfl ?_
    refine xi_getR dX6_readPlates_4 fgX6_39 (so hr) rfl ?_
    refine xe_getI (v := nI (gP G)) dX6_readPlates_7 fgX6_49 cc1 rfl (cg_P hG) ?_
    refine xn_icmp_ge p (gP G) 71 dX6_readPlates_10 (by decide) rfl rfl (by omega) (by omega) (fun h10 => ?_) (fun h10 => ?_)
    · skip
      refine xi_vret dX6_readPlates_71 rfl ?_
      exact h M Fk8.rf hS
    · omega
  | succ f ih =>
    intro p S M hf hG hS hw h
    refine xi_iload_n dX6_readPlates_2 rfl ?_
    refine xi_aload_n dX6_readPlates_3 rfl ?_
    refine xi_getR dX6_readPlates_4 fgX6_39 (so hr) rfl ?_
    refine xe_getI (v := nI (gP G)) dX6_readPlates_7 fgX6_49 cc1 rfl (cg_P hG) ?_
    refine xn_icmp_ge p (gP G) 71 dX6_readPlates_10 (by decide) rfl rfl (by omega) (by omega) (fun h10 => ?_) (fun h10 => ?_)
    · omega
    · skip
      have hp : p < gP G := by omega
      have hmp := mpos_P hW hw hp
      refine xi_aload_n dX6_readPlates_13 rfl ?_
      refine xi_getR dX6_readPlates_14 fgX6_15 (so hr) rfl ?_
      refine xi_iload_n dX6_readPlates_17 rfl ?_
      have q1 := (hw).2.1 p (by omega)
      refine xe_iald (v := nI (sL S p)) p dX6_readPlates_18 (sa2 hr) (by decide) rfl (by omega) (csL hS (by omega)) ?_
      refine xn_if_le (sL S p) 65 dX6_readPlates_19 (by decide) rfl (by omega) (fun h19 => ?_) (fun h19 => ?_)
      · skip
        refine xi_iinc (v := nI (p + 1)) (lv' := [some (.ref r), some (.int (nI (p + 1)))]) dX6_readPlates_65 rfl (xinc p) (by decide) rfl ?_
        refine xi_goto 2 dX6_readPlates_68 (by decide) ?_
        exact ih (p + 1) S M (by omega) hG hS hw (fun M9 hF9 hS9 => h M9 (Fk8.tr Fk8.rf hF9) (by rw [mplL, if_neg (fun w => by omega)]; exact hS9))
      · skip
        refine xi_aload_n dX6_readPlates_22 rfl ?_
        refine xi_getR dX6_readPlates_23 fgX6_39 (so hr) rfl ?_
        refine xi_getR dX6_readPlates_26 fgX6_78 cc1 rfl ?_
        refine xi_aload_n dX6_readPlates_29 rfl ?_
        refine xi_getR dX6_readPlates_30 fgX6_9 (so hr) rfl ?_
        refine xi_iload_n dX6_readPlates_33 rfl ?_
        refine xe_iald (v := nI (mpos S p)) p dX6_readPlates_34 (sa1 hr) (by decide) rfl (by omega) ((csC hS (by omega)).trans hmp.1) ?_
        have q2 := wmap (mpos S p) (by omega)
        refine xe_iald (v := nI (gmap G (mpos S p))) (mpos S p) dX6_readPlates_35 cc2 (by decide) rfl (by omega) (cg_map hG (by omega)) ?_
        refine xi_iconst (v := 3) dX6_readPlates_36 rfl ?_
        refine xn_icmp_ne (gmap G (mpos S p)) 3 65 dX6_readPlates_37 (by decide) rfl rfl (by omega) (by omega) (fun h37 => ?_) (fun h37 => ?_)
        · skip
          refine xi_iinc (v := nI (p + 1)) (lv' := [some (.ref r), some (.int (nI (p + 1)))]) dX6_readPlates_65 rfl (xinc p) (by decide) rfl ?_
          refine xi_goto 2 dX6_readPlates_68 (by decide) ?_
          exact ih (p + 1) S M (by omega) hG hS hw (fun M9 hF9 hS9 => h M9 (Fk8.tr Fk8.rf hF9) (by rw [mplL, if_neg (fun w => h37 w.2)]; exact hS9))
        · skip
          refine xi_aload_n dX6_readPlates_40 rfl ?_
          refine xi_getR dX6_readPlates_41 fgX6_33 (so hr) rfl ?_
          refine xi_iload_n dX6_readPlates_44 rfl ?_
          refine xi_dup2 dX6_readPlates_45 rfl rfl ?_
          refine xe_iald (v := sK S p) p dX6_readPlates_46 (sa8 hr) (by decide) rfl (by omega) (csK hS (by omega)) ?_
          refine xi_iconst (v := 1) dX6_readPlates_47 rfl ?_
          refine xi_aload_n dX6_readPlates_48 rfl ?_
          refine xi_getR dX6_readPlates_49 fgX6_39 (so hr) rfl ?_
          refine xi_getR dX6_readPlates_52 fgX6_81 cc1 rfl ?_
          refine xi_aload_n dX6_readPlates_55 rfl ?_
          refine xi_getR dX6_readPlates_56 fgX6_9 (so hr) rfl ?_
          refine xat 59 rfl ?_
          refine xi_iload_n dX6_readPlates_59 rfl ?_
          refine xe_iald (v := nI (mpos S p)) p dX6_readPlates_60 (sa1 hr) (by decide) rfl (by omega) ((csC hS (by omega)).trans hmp.1) ?_
          have q4 := wlink (mpos S p) (by omega) (by omega)
          refine xe_iald (v := nI (glink G (mpos S p))) (mpos S p) dX6_readPlates_61 cc3 (by decide) rfl (by omega) (cg_link hG (by omega) (by omega)) ?_
          refine xi_ishl dX6_readPlates_62 ?_
          refine xe_ior dX6_readPlates_63 (v := (sK S p ||| ((1 : Int32) <<< (nI (glink G (mpos S p)) &&& 31)))) rfl ?_
          refine xe_iast p dX6_readPlates_64 (sa8 hr) (by decide) rfl (by omega) ?_
          generalize eM5 : (xa M (r + 8) (upd (M.2.1 (r + 8)) p (sK S p ||| ((1 : Int32) <<< (nI (glink G (mpos S p)) &&& 31))))) = M5
          have hS5 : CS G (uK S p (sK S p ||| ((1 : Int32) <<< (nI (glink G (mpos S p)) &&& 31)))) M5 r := by rw [← eM5]; exact csuK hS p (sK S p ||| ((1 : Int32) <<< (nI (glink G (mpos S p)) &&& 31)))
          have hF5 : Fr r M M5 := by rw [← eM5]; exact Fr.xa (by decide) (by decide)
          have hG5 : CG G M5 := CG.fr hG hr hF5
          have hw5 : wS G (uK S p (sK S p ||| ((1 : Int32) <<< (nI (glink G (mpos S p)) &&& 31)))) := (wS_uK hw)
          refine xi_iinc (v := nI (p + 1)) (lv' := [some (.ref r), some (.int (nI (p + 1)))]) dX6_readPlates_65 rfl (xinc p) (by decide) rfl ?_
          refine xi_goto 2 dX6_readPlates_68 (by decide) ?_
          exact ih (p + 1) (uK S p (sK S p ||| ((1 : Int32) <<< (nI (glink G (mpos S p)) &&& 31)))) M5 (by omega) hG5 hS5 hw5 (fun M9 hF9 hS9 => h M9 (Fk8.tr (show Fk8 r M M5 by rw [← eM5]; exact Fk8.xa) hF9) (by rw [mplL, if_pos ⟨h19, h37⟩]; exact hS9))

set_option maxHeartbeats 4000000 in
set_option maxRecDepth 100000 in
theorem s_platesK {G : xG} {S : xS} {M : xM} {r : Nat} {Q : Option Value → xM → Prop} (hW : wG G) (hG : CG G M) (hr : isSt r) (hS : CS G S M r) (hw : wS G S) (h : ∀ M2, Fk8 r M M2 → CS G (mplates G S) M2 r → Q none M2) : WP shC mX6_readPlates 0 [some (.ref r), none] [] M Q := by
  obtain ⟨b1, b2, b3, b4, b5, b6, b7, b8, b9, wmap, wlink, wk0, wk1, b10, b11, wword⟩ := id hW
  refine xi_iconst (v := 0) dX6_readPlates_0 rfl ?_
  refine xi_istore_n (lv' := [some (.ref r), some (.int 0)]) dX6_readPlates_1 (by decide) rfl ?_
  exact l_platesK hW hr (gP G) 0 S M (by omega) hG hS hw h

set_option maxHeartbeats 4000000 in
set_option maxRecDepth 100000 in
theorem nl_learnK {G : xG} {s : Nat} {Q : Option Value → xM → Prop} (hW : wG G) (hs : s ≤ 56000) : ∀ (f p : Nat) (S : xS) (M : xM), p + f = gP G → MG G M → RM G S M s → wS G S → (∀ M2, Fm8 s M M2 → RM G (mplL G p f S) M2 s → Q none M2) → WP shM mX10_learn 2 [some (.ref 0), some (.int (nI s)), some (.int (nI p)), none] [] M Q := by
  obtain ⟨b1, b2, b3, b4, b5, b6, b7, b8, b9, wmap, wlink, wk0, wk1, b10, b11, wword⟩ := id hW
  intro f
  induction f with
  | zero =>
    intro p S M hf hG hS hw h
    refine xi_iload_n dX10_learn_2 rfl ?_
    refine xi_aload_n dX10_learn_3 rfl ?_
    refine xe_getI (v := nI (gP G)) dX10_learn_4 fgX10_16 mm0 rfl (mg_P hG) ?_
    refine xn_icmp_ge p (gP G) 71 dX10_learn_7 (by decide) rfl rfl (by omega) (by omega) (fun h7 => ?_) (fun h7 => ?_)
    · skip
      refine xi_vret dX10_learn_71 rfl ?_
      exact h M Fm8.rf hS
    · omega
  | succ f ih =>
    intro p S M hf hG hS hw h
    refine xi_iload_n dX10_learn_2 rfl ?_
    refine xi_aload_n dX10_learn_3 rfl ?_
    refine xe_getI (v := nI (gP G)) dX10_learn_4 fgX10_16 mm0 rfl (mg_P hG) ?_
    refine xn_icmp_ge p (gP G) 71 dX10_learn_7 (by decide) rfl rfl (by omega) (by omega) (fun h7 => ?_) (fun h7 => ?_)
    · omega
    · skip
      have hp : p < gP G := by omega
      have hmp := mpos_P hW hw hp
      refine xi_aload_n dX10_learn_10 rfl ?_
      refine xi_getR dX10_learn_11 fgX10_39 mm0 rfl ?_
      refine xi_iload_n dX10_learn_14 rfl ?_
      refine xi_bipush (v := 6) dX10_learn_15 (by decide) ?_
      refine xi_iload_n dX10_learn_17 rfl ?_
      refine xe_imul dX10_learn_18 (v := nI (6 * p)) (pk_mul 6 p) ?_
      refine xe_iadd dX10_learn_19 (v := nI (s + (6 * p))) (nI_add s (6 * p)) ?_
      refine xi_iconst (v := 0) dX10_learn_20 rfl ?_
      refine xe_iadd dX10_learn_21 (v := nI (s + (6 * p) + 0)) (nI_add (s + (6 * p)) 0) ?_
      refine xe_iald (v := nI (mpos S p)) (s + (6 * p) + 0) dX10_learn_22 mm5 (by decide) rfl (by omega) ((rmC hS (by omega)).trans hmp.1) ?_
      refine xi_istore_n (lv' := [some (.ref 0), some (.int (nI s)), some (.int (nI p)), some (.int (nI (mpos S p)))]) dX10_learn_23 (by decide) rfl ?_
      refine xat 24 rfl ?_
      refine xi_aload_n dX10_learn_24 rfl ?_
      refine xi_iload_n dX10_learn_25 rfl ?_
      refine xi_iload_n dX10_learn_26 rfl ?_
      refine xi_callV [.int (nI s), .int (nI p)] [] dX10_learn_27 zX10_stands mlX10_161 mm0 rfl rfl rfl rfl rfl (Nat.le_of_ble_eq_true rfl) (Nat.le_of_ble_eq_true rfl) ⟨by decide, by decide⟩ ?_
      refine n_stands hW hG hs hS hw (n := p) (by omega) ?_
      show WP _ _ 30 _ [.int (xb (decide (0 < sL S p)))] _ _
      refine xb_if_eq (decide (0 < sL S p)) 65 dX10_learn_30 (by decide) rfl (fun h30 => ?_) (fun h30 => ?_)
      · skip
        refine xi_iinc (v := nI (p + 1)) (lv' := [some (.ref 0), some (.int (nI s)), some (.int (nI (p + 1))), some (.int (nI (mpos S p)))]) dX10_learn_65 rfl (xinc p) (by decide) rfl ?_
        refine xi_goto 2 dX10_learn_68 (by decide) ?_
        refine xi_drop [true, true, true, false] rfl ?_
        exact ih (p + 1) S M (by omega) hG hS hw (fun M99 hF99 hS99 => h M99 (Fm8.tr Fm8.rf hF99) (by rw [mplL, if_neg (fun w => by simp at h30; omega)]; exact hS99))
      · skip
        refine xi_aload_n dX10_learn_33 rfl ?_
        refine xi_getR dX10_learn_34 fgX10_19 mm0 rfl ?_
        refine xi_iload_n dX10_learn_37 rfl ?_
        have q1 := wmap (mpos S p) (by omega)
        refine xe_iald (v := nI (gmap G (mpos S p))) (mpos S p) dX10_learn_38 mm1 (by decide) rfl (by omega) (mg_map hG (by omega)) ?_
        refine xi_iconst (v := 3) dX10_learn_39 rfl ?_
        refine xn_icmp_ne (gmap G (mpos S p)) 3 65 dX10_learn_40 (by decide) rfl rfl (by omega) (by omega) (fun h40 => ?_) (fun h40 => ?_)
        · skip
          refine xi_iinc (v := nI (p + 1)) (lv' := [some (.ref 0), some (.int (nI s)), some (.int (nI (p + 1))), some (.int (nI (mpos S p)))]) dX10_learn_65 rfl (xinc p) (by decide) rfl ?_
          refine xi_goto 2 dX10_learn_68 (by decide) ?_
          refine xi_drop [true, true, true, false] rfl ?_
          exact ih (p + 1) S M (by omega) hG hS hw (fun M99 hF99 hS99 => h M99 (Fm8.tr Fm8.rf hF99) (by rw [mplL, if_neg (fun w => h40 w.2)]; exact hS99))
        · skip
          refine xi_aload_n dX10_learn_43 rfl ?_
          refine xi_getR dX10_learn_44 fgX10_39 mm0 rfl ?_
          refine xi_iload_n dX10_learn_47 rfl ?_
          refine xi_bipush (v := 108) dX10_learn_48 (by decide) ?_
          refine xe_iadd dX10_learn_50 (v := nI (s + 108)) (nI_add s 108) ?_
          refine xi_iload_n dX10_learn_51 rfl ?_
          refine xe_iadd dX10_learn_52 (v := nI (s + 108 + p)) (nI_add (s + 108) p) ?_
          refine xi_dup2 dX10_learn_53 rfl rfl ?_
          refine xe_iald (v := sK S p) (s + 108 + p) dX10_learn_54 mm5 (by decide) rfl (by omega) (rmK hS (by omega)) ?_
          refine xi_iconst (v := 1) dX10_learn_55 rfl ?_
          refine xi_aload_n dX10_learn_56 rfl ?_
          refine xat 57 rfl ?_
          refine xi_getR dX10_learn_57 fgX10_23 mm0 rfl ?_
          refine xi_iload_n dX10_learn_60 rfl ?_
          have q3 := wlink (mpos S p) (by omega) (by omega)
          refine xe_iald (v := nI (glink G (mpos S p))) (mpos S p) dX10_learn_61 mm2 (by decide) rfl (by omega) (mg_link hG (by omega) (by omega)) ?_
          refine xi_ishl dX10_learn_62 ?_
          refine xe_ior dX10_learn_63 (v := (sK S p ||| ((1 : Int32) <<< (nI (glink G (mpos S p)) &&& 31)))) rfl ?_
          refine xe_iast (s + 108 + p) dX10_learn_64 mm5 (by decide) rfl (by omega) ?_
          generalize eM4 : (xa M 5 (upd (M.2.1 5) (s + 108 + p) (sK S p ||| ((1 : Int32) <<< (nI (glink G (mpos S p)) &&& 31))))) = M4
          have hS4 : RM G (uK S p (sK S p ||| ((1 : Int32) <<< (nI (glink G (mpos S p)) &&& 31)))) M4 s := by rw [← eM4]; exact rmuK hW hS (by omega) (sK S p ||| ((1 : Int32) <<< (nI (glink G (mpos S p)) &&& 31)))
          have hF4 : Fm s M M4 := by rw [← eM4]; exact Fm.xa (by omega) (by omega)
          have hG4 : MG G M4 := MG.fm hG hF4
          have hw4 : wS G (uK S p (sK S p ||| ((1 : Int32) <<< (nI (glink G (mpos S p)) &&& 31)))) := (wS_uK hw)
          refine xi_iinc (v := nI (p + 1)) (lv' := [some (.ref 0), some (.int (nI s)), some (.int (nI (p + 1))), some (.int (nI (mpos S p)))]) dX10_learn_65 rfl (xinc p) (by decide) rfl ?_
          refine xi_goto 2 dX10_learn_68 (by decide) ?_
          refine xi_drop [true, true, true, false] rfl ?_
          exact ih (p + 1) (uK S p (sK S p ||| ((1 : Int32) <<< (nI (glink G (mpos S p)) &&& 31)))) M4 (by omega) hG4 hS4 hw4 (fun M99 hF99 hS99 => h M99 (Fm8.tr (show Fm8 s M M4 by rw [← eM4]; exact Fm8.xa (by omega)) hF99) (by rw [mplL, if_pos ⟨by simpa using h30, h40⟩]; exact hS99))

set_option maxHeartbeats 4000000 in
set_option maxRecDepth 100000 in
theorem n_learnK {G : xG} {S : xS} {M : xM} {s : Nat} {Q : Option Value → xM → Prop} (hW : wG G) (hG : MG G M) (hs : s ≤ 56000) (hS : RM G S M s) (hw : wS G S) (h : ∀ M2, Fm8 s M M2 → RM G (mplates G S) M2 s → Q none M2) : WP shM mX10_learn 0 [some (.ref 0), some (.int (nI s)), none, none] [] M Q := by
  obtain ⟨b1, b2, b3, b4, b5, b6, b7, b8, b9, wmap, wlink, wk0, wk1, b10, b11, wword⟩ := id hW
  refine xi_iconst (v := 0) dX10_learn_0 rfl ?_
  refine xi_istore_n (lv' := [some (.ref 0), some (.int (nI s)), some (.int 0), none]) dX10_learn_1 (by decide) rfl ?_
  exact nl_learnK hW hs (gP G) 0 S M (by omega) hG hS hw h

set_option maxHeartbeats 4000000 in
set_option maxRecDepth 100000 in
theorem s_copyC {M : xM} {r q : Nat} {Q : Option Value → xM → Prop} (hr : isSt r) (hrq : isSt q) (h : ∀ M2, Cp 9 r q M M2 → Q none M2) : WP shC mX6_copyFrom 0 [some (.ref r), some (.ref q)] [] M Q := by
  have hq := isSt.far hr hrq
  have hC0 : Cp 0 r q M M := Cp.z
  refine xi_aload_n dX6_copyFrom_0 rfl ?_
  refine xi_getR dX6_copyFrom_1 fgX6_9 (so hrq) rfl ?_
  refine xi_iconst (v := 0) dX6_copyFrom_4 rfl ?_
  refine xi_aload_n dX6_copyFrom_5 rfl ?_
  refine xi_getR dX6_copyFrom_6 fgX6_9 (so hr) rfl ?_
  refine xi_iconst (v := 0) dX6_copyFrom_9 rfl ?_
  refine xi_bipush (v := 16) dX6_copyFrom_10 (by decide) ?_
  refine xi_copyi dX6_copyFrom_12 mlX6_66 xnat (sa1 hrq) (sa1 hr) (by decide) (by decide) (by decide) (by decide) (by decide) (by decide) (Nat.le_of_ble_eq_true rfl) ?_
  generalize eK1 : (xa M (r + 1) (va_cpy (M.2.1 (q + 1)) (M.2.1 (r + 1)) (0 : Int32).toNatClampNeg (0 : Int32).toNatClampNeg (16 : Int32).toNatClampNeg)) = K1
  have hC1 : Cp 1 r q M K1 := by rw [← eK1]; exact hC0.step hq (by omega) (by rfl)
  refine xi_aload_n dX6_copyFrom_15 rfl ?_
  refine xi_getR dX6_copyFrom_16 fgX6_15 (so hrq) rfl ?_
  refine xi_iconst (v := 0) dX6_copyFrom_19 rfl ?_
  refine xat 20 rfl ?_
  refine xi_aload_n dX6_copyFrom_20 rfl ?_
  refine xi_getR dX6_copyFrom_21 fgX6_15 (so hr) rfl ?_
  refine xi_iconst (v := 0) dX6_copyFrom_24 rfl ?_
  refine xi_bipush (v := 16) dX6_copyFrom_25 (by decide) ?_
  refine xi_copyi dX6_copyFrom_27 mlX6_66 xnat (sa2 hrq) (sa2 hr) (by decide) (by decide) (by decide) (by decide) (by decide) (by decide) (Nat.le_of_ble_eq_true rfl) ?_
  generalize eK2 : (xa K1 (r + 2) (va_cpy (K1.2.1 (q + 2)) (K1.2.1 (r + 2)) (0 : Int32).toNatClampNeg (0 : Int32).toNatClampNeg (16 : Int32).toNatClampNeg)) = K2
  have hC2 : Cp 2 r q M K2 := by rw [← eK2]; exact hC1.step hq (by omega) (by rfl)
  refine xi_aload_n dX6_copyFrom_30 rfl ?_
  refine xi_getR dX6_copyFrom_31 fgX6_18 (so hrq) rfl ?_
  refine xi_iconst (v := 0) dX6_copyFrom_34 rfl ?_
  refine xi_aload_n dX6_copyFrom_35 rfl ?_
  refine xi_getR dX6_copyFrom_36 fgX6_18 (so hr) rfl ?_
  refine xi_iconst (v := 0) dX6_copyFrom_39 rfl ?_
  refine xi_bipush (v := 16) dX6_copyFrom_40 (by decide) ?_
  refine xat 42 rfl ?_
  refine xi_copyi dX6_copyFrom_42 mlX6_66 xnat (sa3 hrq) (sa3 hr) (by decide) (by decide) (by decide) (by decide) (by decide) (by decide) (Nat.le_of_ble_eq_true rfl) ?_
  generalize eK3 : (xa K2 (r + 3) (va_cpy (K2.2.1 (q + 3)) (K2.2.1 (r + 3)) (0 : Int32).toNatClampNeg (0 : Int32).toNatClampNeg (16 : Int32).toNatClampNeg)) = K3
  have hC3 : Cp 3 r q M K3 := by rw [← eK3]; exact hC2.step hq (by omega) (by rfl)
  refine xi_aload_n dX6_copyFrom_45 rfl ?_
  refine xi_getR dX6_copyFrom_46 fgX6_21 (so hrq) rfl ?_
  refine xi_iconst (v := 0) dX6_copyFrom_49 rfl ?_
  refine xi_aload_n dX6_copyFrom_50 rfl ?_
  refine xi_getR dX6_copyFrom_51 fgX6_21 (so hr) rfl ?_
  refine xi_iconst (v := 0) dX6_copyFrom_54 rfl ?_
  refine xi_iconst (v := 4) dX6_copyFrom_55 rfl ?_
  refine xi_copyi dX6_copyFrom_56 mlX6_66 xnat (sa4 hrq) (sa4 hr) (by decide) (by decide) (by decide) (by decide) (by decide) (by decide) (Nat.le_of_ble_eq_true rfl) ?_
  generalize eK4 : (xa K3 (r + 4) (va_cpy (K3.2.1 (q + 4)) (K3.2.1 (r + 4)) (0 : Int32).toNatClampNeg (0 : Int32).toNatClampNeg (4 : Int32).toNatClampNeg)) = K4
  have hC4 : Cp 4 r q M K4 := by rw [← eK4]; exact hC3.step hq (by omega) (by rfl)
  refine xi_aload_n dX6_copyFrom_59 rfl ?_
  refine xi_getR dX6_copyFrom_60 fgX6_24 (so hrq) rfl ?_
  refine xi_iconst (v := 0) dX6_copyFrom_63 rfl ?_
  refine xat 64 rfl ?_
  refine xi_aload_n dX6_copyFrom_64 rfl ?_
  refine xi_getR dX6_copyFrom_65 fgX6_24 (so hr) rfl ?_
  refine xi_iconst (v := 0) dX6_copyFrom_68 rfl ?_
  refine xi_iconst (v := 4) dX6_copyFrom_69 rfl ?_
  refine xi_copyi dX6_copyFrom_70 mlX6_66 xnat (sa5 hrq) (sa5 hr) (by decide) (by decide) (by decide) (by decide) (by decide) (by decide) (Nat.le_of_ble_eq_true rfl) ?_
  generalize eK5 : (xa K4 (r + 5) (va_cpy (K4.2.1 (q + 5)) (K4.2.1 (r + 5)) (0 : Int32).toNatClampNeg (0 : Int32).toNatClampNeg (4 : Int32).toNatClampNeg)) = K5
  have hC5 : Cp 5 r q M K5 := by rw [← eK5]; exact hC4.step hq (by omega) (by rfl)
  refine xi_aload_n dX6_copyFrom_73 rfl ?_
  refine xi_getR dX6_copyFrom_74 fgX6_27 (so hrq) rfl ?_
  refine xi_iconst (v := 0) dX6_copyFrom_77 rfl ?_
  refine xi_aload_n dX6_copyFrom_78 rfl ?_
  refine xi_getR dX6_copyFrom_79 fgX6_27 (so hr) rfl ?_
  refine xi_iconst (v := 0) dX6_copyFrom_82 rfl ?_
  refine xi_iconst (v := 4) dX6_copyFrom_83 rfl ?_
  refine xat 84 rfl ?_
  refine xi_copyi dX6_copyFrom_84 mlX6_66 xnat (sa6 hrq) (sa6 hr) (by decide) (by decide) (by decide) (by decide) (by decide) (by decide) (Nat.le_of_ble_eq_true rfl) ?_
  generalize eK6 : (xa K5 (r + 6) (va_cpy (K5.2.1 (q + 6)) (K5.2.1 (r + 6)) (0 : Int32).toNatClampNeg (0 : Int32).toNatClampNeg (4 : Int32).toNatClampNeg)) = K6
  have hC6 : Cp 6 r q M K6 := by rw [← eK6]; exact hC5.step hq (by omega) (by rfl)
  refine xi_aload_n dX6_copyFrom_87 rfl ?_
  refine xi_getR dX6_copyFrom_88 fgX6_30 (so hrq) rfl ?_
  refine xi_iconst (v := 0) dX6_copyFrom_91 rfl ?_
  refine xi_aload_n dX6_copyFrom_92 rfl ?_
  refine xi_getR dX6_copyFrom_93 fgX6_30 (so hr) rfl ?_
  refine xi_iconst (v := 0) dX6_copyFrom_96 rfl ?_
  refine xi_iconst (v := 4) dX6_copyFrom_97 rfl ?_
  refine xi_copyi dX6_copyFrom_98 mlX6_66 xnat (sa7 hrq) (sa7 hr) (by decide) (by decide) (by decide) (by decide) (by decide) (by decide) (Nat.le_of_ble_eq_true rfl) ?_
  generalize eK7 : (xa K6 (r + 7) (va_cpy (K6.2.1 (q + 7)) (K6.2.1 (r + 7)) (0 : Int32).toNatClampNeg (0 : Int32).toNatClampNeg (4 : Int32).toNatClampNeg)) = K7
  have hC7 : Cp 7 r q M K7 := by rw [← eK7]; exact hC6.step hq (by omega) (by rfl)
  refine xi_aload_n dX6_copyFrom_101 rfl ?_
  refine xi_getR dX6_copyFrom_102 fgX6_33 (so hrq) rfl ?_
  refine xi_iconst (v := 0) dX6_copyFrom_105 rfl ?_
  refine xat 106 rfl ?_
  refine xi_aload_n dX6_copyFrom_106 rfl ?_
  refine xi_getR dX6_copyFrom_107 fgX6_33 (so hr) rfl ?_
  refine xi_iconst (v := 0) dX6_copyFrom_110 rfl ?_
  refine xi_iconst (v := 4) dX6_copyFrom_111 rfl ?_
  refine xi_copyi dX6_copyFrom_112 mlX6_66 xnat (sa8 hrq) (sa8 hr) (by decide) (by decide) (by decide) (by decide) (by decide) (by decide) (Nat.le_of_ble_eq_true rfl) ?_
  generalize eK8 : (xa K7 (r + 8) (va_cpy (K7.2.1 (q + 8)) (K7.2.1 (r + 8)) (0 : Int32).toNatClampNeg (0 : Int32).toNatClampNeg (4 : Int32).toNatClampNeg)) = K8
  have hC8 : Cp 8 r q M K8 := by rw [← eK8]; exact hC7.step hq (by omega) (by rfl)
  refine xi_aload_n dX6_copyFrom_115 rfl ?_
  refine xi_getR dX6_copyFrom_116 fgX6_36 (so hrq) rfl ?_
  refine xi_iconst (v := 0) dX6_copyFrom_119 rfl ?_
  refine xi_aload_n dX6_copyFrom_120 rfl ?_
  refine xi_getR dX6_copyFrom_121 fgX6_36 (so hr) rfl ?_
  refine xi_iconst (v := 0) dX6_copyFrom_124 rfl ?_
  refine xi_bipush (v := 8) dX6_copyFrom_125 (by decide) ?_
  refine xat 127 rfl ?_
  refine xi_copyi dX6_copyFrom_127 mlX6_66 xnat (sa9 hrq) (sa9 hr) (by decide) (by decide) (by decide) (by decide) (by decide) (by decide) (Nat.le_of_ble_eq_true rfl) ?_
  generalize eK9 : (xa K8 (r + 9) (va_cpy (K8.2.1 (q + 9)) (K8.2.1 (r + 9)) (0 : Int32).toNatClampNeg (0 : Int32).toNatClampNeg (8 : Int32).toNatClampNeg)) = K9
  have hC9 : Cp 9 r q M K9 := by rw [← eK9]; exact hC8.step hq (by omega) (by rfl)
  refine xi_vret dX6_copyFrom_130 rfl ?_
  exact h K9 hC9

set_option maxHeartbeats 4000000 in
set_option maxRecDepth 100000 in
theorem s_rs9C {M : xM} {q : Nat} {Q : Option Value → xM → Prop} (hrq : isSt q) (h : ∀ M2, Cp 9 61 q M M2 → Q none M2) : WP shC mX5_restart 0 [some (.ref 9), some (.ref q)] [] M Q := by
  refine xi_aload_n dX5_restart_0 rfl ?_
  refine xi_getR dX5_restart_1 fgX5_9 cc9 rfl ?_
  refine xi_iconst (v := 0) dX5_restart_4 rfl ?_
  refine xe_aald4 (j := 61) 0 dX5_restart_5 cc10 (by decide) rfl (by omega) rfl ?_
  refine xi_aload_n dX5_restart_6 rfl ?_
  refine xi_callV [.ref q] [] dX5_restart_7 zX6_copyFrom mlX5_18 (so (isSt_ring 0)) rfl rfl rfl rfl rfl (Nat.le_of_ble_eq_true rfl) (Nat.le_of_ble_eq_true rfl) ⟨by decide, by decide⟩ ?_
  refine s_copyC (isSt_ring 0) hrq (fun M2 hC2 => ?_)
  show WP _ _ 10 _ [] _ _
  refine xi_vret dX5_restart_10 rfl ?_
  exact h M2 hC2

set_option maxHeartbeats 4000000 in
set_option maxRecDepth 100000 in
theorem s_putNew {M : xM} {r : Nat} {Q : Option Value → xM → Prop} (hr : isSt r) {n q : Nat} {c : Int32} (hn : n < 16) (hq : q ≤ 7) (h : Q none (xa (xa M (r + 1) (upd (M.2.1 (r + 1)) n c)) (r + 2) (upd ((xa M (r + 1) (upd (M.2.1 (r + 1)) n c)).2.1 (r + 2)) n (nI (mlife q))))) : WP shC mX6_putNew 0 [some (.ref r), some (.int (nI n)), some (.int (nI q)), some (.int c)] [] M Q := by
  refine xi_aload_n dX6_putNew_0 rfl ?_
  refine xi_getR dX6_putNew_1 fgX6_9 (so hr) rfl ?_
  refine xi_iload_n dX6_putNew_4 rfl ?_
  refine xi_iload_n dX6_putNew_5 rfl ?_
  refine xe_iast n dX6_putNew_6 (sa1 hr) (by decide) rfl (by omega) ?_
  refine xi_aload_n dX6_putNew_7 rfl ?_
  refine xi_getR dX6_putNew_8 fgX6_15 (so hr) rfl ?_
  refine xi_iload_n dX6_putNew_11 rfl ?_
  refine xi_first dX6_putNew_12 dX6_putNew_15 dX6_putNew_16 rfl rfl (pk_in q 8 (by omega)) ?_
  refine xtop (y := nI (mlife q)) (by rw [pk_cl q]; exact xfl_life hq) ?_
  refine xe_iast n dX6_putNew_17 (sa2 hr) (by decide) rfl (by omega) ?_
  refine xi_vret dX6_putNew_18 rfl ?_
  exact h

set_option maxHeartbeats 4000000 in
set_option maxRecDepth 100000 in
theorem g_addDoor {G : xG} {M : xM} {Q : Option Value → xM → Prop} {k v : Nat} (hd : M.1 1 4 = nI (gD G)) (hd8 : gD G < 8) (hk : k < 100) (h : Q (some (.int (nI (gD G)))) (xf (xa (xa (xa M 2 (upd (M.2.1 2) k 2)) 3 (upd (M.2.1 3) k (nI (gD G)))) 7 (upd (M.2.1 7) (gD G) (nI v))) 1 4 (nI (gD G + 1)))) : WP shC mX1_addDoor 0 [some (.ref 1), some (.int (nI k)), some (.int (nI v))] [] M Q := by
  refine xi_aload_n dX1_addDoor_0 rfl ?_
  refine xi_getR dX1_addDoor_1 fgX1_9 cc1 rfl ?_
  refine xi_iload_n dX1_addDoor_4 rfl ?_
  refine xi_iconst (v := 2) dX1_addDoor_5 rfl ?_
  refine xe_iast k dX1_addDoor_6 cc2 (by decide) rfl (by omega) ?_
  refine xi_aload_n dX1_addDoor_7 rfl ?_
  refine xi_getR dX1_addDoor_8 fgX1_15 cc1 rfl ?_
  refine xi_iload_n dX1_addDoor_11 rfl ?_
  refine xi_aload_n dX1_addDoor_12 rfl ?_
  refine xe_getI (v := nI (gD G)) dX1_addDoor_13 fgX1_46 cc1 rfl hd ?_
  refine xe_iast k dX1_addDoor_16 cc3 (by decide) rfl (by omega) ?_
  refine xat 17 rfl ?_
  refine xi_aload_n dX1_addDoor_17 rfl ?_
  refine xi_getR dX1_addDoor_18 fgX1_27 cc1 rfl ?_
  refine xi_aload_n dX1_addDoor_21 rfl ?_
  refine xe_getI (v := nI (gD G)) dX1_addDoor_22 fgX1_46 cc1 rfl hd ?_
  refine xi_iload_n dX1_addDoor_25 rfl ?_
  refine xe_iast (gD G) dX1_addDoor_26 cc7 (by decide) rfl (by omega) ?_
  refine xi_aload_n dX1_addDoor_27 rfl ?_
  refine xi_dup dX1_addDoor_28 rfl ?_
  refine xe_getI (v := nI (gD G)) dX1_addDoor_29 fgX1_46 cc1 rfl hd ?_
  refine xi_dup_x1 dX1_addDoor_32 rfl rfl ?_
  refine xi_iconst (v := 1) dX1_addDoor_33 rfl ?_
  refine xe_iadd dX1_addDoor_34 (v := nI (gD G + 1)) (nI_add (gD G) 1) ?_
  refine xat 35 rfl ?_
  refine xi_put dX1_addDoor_35 fpX1_46 cc1 rfl ?_
  refine xi_iret (v := nI (gD G)) dX1_addDoor_38 rfl ?_
  exact h

set_option maxHeartbeats 4000000 in
set_option maxRecDepth 100000 in
theorem g_addThing {G : xG} {M : xM} {Q : Option Value → xM → Prop} {q : Nat} (ht : M.1 1 5 = nI (gT G)) (ht6 : gT G < 16) (h : Q (some (.int (nI (gT G)))) (xf (xa M 8 (upd (M.2.1 8) (gT G) (nI q))) 1 5 (nI (gT G + 1)))) : WP shC mX1_addThing 0 [some (.ref 1), some (.int (nI q))] [] M Q := by
  refine xi_aload_n dX1_addThing_0 rfl ?_
  refine xi_getR dX1_addThing_1 fgX1_30 cc1 rfl ?_
  refine xi_aload_n dX1_addThing_4 rfl ?_
  refine xe_getI (v := nI (gT G)) dX1_addThing_5 fgX1_49 cc1 rfl ht ?_
  refine xi_iload_n dX1_addThing_8 rfl ?_
  refine xe_iast (gT G) dX1_addThing_9 cc8 (by decide) rfl (by omega) ?_
  refine xi_aload_n dX1_addThing_10 rfl ?_
  refine xi_dup dX1_addThing_11 rfl ?_
  refine xe_getI (v := nI (gT G)) dX1_addThing_12 fgX1_49 cc1 rfl ht ?_
  refine xi_dup_x1 dX1_addThing_15 rfl rfl ?_
  refine xi_iconst (v := 1) dX1_addThing_16 rfl ?_
  refine xat 17 rfl ?_
  refine xe_iadd dX1_addThing_17 (v := nI (gT G + 1)) (nI_add (gT G) 1) ?_
  refine xi_put dX1_addThing_18 fpX1_49 cc1 rfl ?_
  refine xi_iret (v := nI (gT G)) dX1_addThing_21 rfl ?_
  exact h

set_option maxHeartbeats 4000000 in
set_option maxRecDepth 100000 in
theorem c_started {G : xG} {S0 : xS} {now late risk : Nat} {A : Nat → Nat} {L : Nat → Bool} {sq : Nat → Nat} {nl : Nat} {rf hr : Int32} {lg : xE2} {w : xw} {tp : Nat → xT} {M : xM} {Q : Option Value → xM → Prop} (hX : wX (G, S0, now, late, risk, A, L, sq, nl, rf, hr, lg, w, tp)) (hC : RepC (G, S0, now, late, risk, A, L, sq, nl, rf, hr, lg, w, tp) M)  (h : Q (some (.int (xb (decide (0 < now ∨ 0 < nl))))) M) : WP shC mX9_hasStarted 0 [some (.ref 0)] [] M Q := by
  obtain ⟨hW, hw0, wn, wl, wr, wA_, wsq, wnl, wmo, wtk, wwt, wtp, wO0, wB0⟩ := id hX
  obtain ⟨b1, b2, b3, b4, b5, b6, b7, b8, b9, wmap, wlink, wk0, wk1, b10, b11, wword⟩ := id hW
  have nb : nl ≤ 2000 := by rw [wnl]; exact mcnt_le 2000
  obtain ⟨hG, hKF, hKR, hL, hKE, hKS, hKW, hKT, hKM⟩ := id hC
  obtain ⟨hno, hla, hri, hnl, hrf, hhr⟩ := id hKM
  have hSn : CS G (Zf G A S0 now) M (61 + 10 * (now % 16)) := hKR.1 now (by omega) (by omega)
  have hwn : wS G (Zf G A S0 now) := wS_Zf hW hw0 now
  refine xi_aload_n dX9_hasStarted_0 rfl ?_
  refine xe_getI (v := nI now) dX9_hasStarted_1 fgX9_98 cc0 rfl hno ?_
  refine xn_if_gt now 14 dX9_hasStarted_4 (by decide) rfl (by omega) (fun h4 => ?_) (fun h4 => ?_)
  · skip
    refine xi_iconst (v := 1) dX9_hasStarted_14 rfl ?_
    refine xi_goto 19 dX9_hasStarted_15 (by decide) ?_
    refine xi_zret (v := 1) dX9_hasStarted_19 rfl (by decide) ?_
    rw [show decide (0 < now ∨ 0 < nl) = true by simp; omega] at h
    exact h
  · skip
    refine xi_aload_n dX9_hasStarted_7 rfl ?_
    refine xe_getI (v := nI nl) dX9_hasStarted_8 fgX9_107 cc0 rfl hnl ?_
    refine xn_if_le nl 18 dX9_hasStarted_11 (by decide) rfl (by omega) (fun h11 => ?_) (fun h11 => ?_)
    · skip
      refine xi_iconst (v := 0) dX9_hasStarted_18 rfl ?_
      refine xi_zret (v := 0) dX9_hasStarted_19 rfl (by decide) ?_
      rw [show decide (0 < now ∨ 0 < nl) = false by simp; omega] at h
      exact h
    · skip
      refine xi_iconst (v := 1) dX9_hasStarted_14 rfl ?_
      refine xi_goto 19 dX9_hasStarted_15 (by decide) ?_
      refine xi_zret (v := 1) dX9_hasStarted_19 rfl (by decide) ?_
      rw [show decide (0 < now ∨ 0 < nl) = true by simp; omega] at h
      exact h

set_option maxHeartbeats 4000000 in
set_option maxRecDepth 100000 in
theorem ol_started {G : xG} {S0 : xS} {now late risk : Nat} {A : Nat → Nat} {L : Nat → Bool} {sq : Nat → Nat} {nl : Nat} {rf hr : Int32} {lg : xE2} {w : xw} {tp : Nat → xT} {M : xM} {Q : Option Value → xM → Prop} (hX : wX (G, S0, now, late, risk, A, L, sq, nl, rf, hr, lg, w, tp)) (hC : RepM (G, S0, now, late, risk, A, L, sq, nl, rf, hr, lg, w, tp) M) : ∀ (f i : Nat) (b : Bool), i + f = 2000 → Q (some (.int (xb (mst A i f b)))) M → WP shM mX10_isStarted 15 [some (.ref 0), some (.int (xb b)), some (.int (nI i))] [] M Q := by
  obtain ⟨hW, hw0, wn, wl, wr, wA_, wsq, wnl, wmo, wtk, wwt, wtp, wO0, wB0⟩ := id hX
  obtain ⟨b1, b2, b3, b4, b5, b6, b7, b8, b9, wmap, wlink, wk0, wk1, b10, b11, wword⟩ := id hW
  have nb : nl ≤ 2000 := by rw [wnl]; exact mcnt_le 2000
  obtain ⟨hG, hNS, hNA, hNL, hNH, hNE, hNQ, hNW, hNT, hNM⟩ := id hC
  obtain ⟨hno, hla, hri, hnl, hrf, hhr⟩ := id hNM
  obtain ⟨s, es⟩ : ∃ s, s = 112 * now := ⟨_, rfl⟩
  have hs : s ≤ 56000 := by omega
  have hS : RM G (Zf G A S0 now) M s := by rw [es]; exact hNS.1 now (Nat.le_refl _)
  have hw : wS G (Zf G A S0 now) := wS_Zf hW hw0 now
  intro f
  induction f with
  | zero =>
    intro i b hf h
    refine xi_iload_n dX10_isStarted_15 rfl ?_
    refine xi_sipush (v := 2000) dX10_isStarted_16 (by decide) ?_
    refine xn_icmp_ge i 2000 50 dX10_isStarted_19 (by decide) rfl rfl (by omega) (by omega) (fun h19 => ?_) (fun z => absurd z (by omega))
    refine xi_iload_n dX10_isStarted_50 rfl ?_
    refine xb_zret (st := []) b dX10_isStarted_51 rfl rfl ?_
    exact h
  | succ f ih =>
    intro i b hf h
    rw [mst] at h
    have aib := wA_ i
    refine xi_iload_n dX10_isStarted_15 rfl ?_
    refine xi_sipush (v := 2000) dX10_isStarted_16 (by decide) ?_
    refine xn_icmp_ge i 2000 50 dX10_isStarted_19 (by decide) rfl rfl (by omega) (by omega) (fun z => absurd z (by omega)) (fun h19 => ?_)
    refine xi_iload_n dX10_isStarted_22 rfl ?_
    refine xb_if_ne b 50 dX10_isStarted_23 (by decide) rfl (fun h23 => ?_) (fun h23 => ?_)
    · skip
      refine xi_iload_n dX10_isStarted_50 rfl ?_
      refine xb_zret (st := []) b dX10_isStarted_51 rfl rfl ?_
      rw [if_pos h23] at h
      rw [h23]
      exact h
    · skip
      refine xi_aload_n dX10_isStarted_26 rfl ?_
      refine xi_getR dX10_isStarted_27 fgX10_42 mm0 rfl ?_
      refine xi_iload_n dX10_isStarted_30 rfl ?_
      refine xe_iald (v := nI (A i)) i dX10_isStarted_31 mm6 (by decide) rfl (by omega) (hNA i (by omega)) ?_
      refine xi_sipush (v := 4096) dX10_isStarted_32 (by decide) ?_
      refine xn_icmp_eq (A i) 4096 42 dX10_isStarted_35 (by decide) rfl rfl (by omega) (by omega) (fun h35 => ?_) (fun h35 => ?_)
      · skip
        refine xi_iconst (v := 0) dX10_isStarted_42 rfl ?_
        refine xi_istore_n (lv' := [some (.ref 0), some (.int 0), some (.int (nI i))]) dX10_isStarted_43 (by decide) rfl ?_
        refine xi_iinc (v := nI (i + 1)) (lv' := [some (.ref 0), some (.int 0), some (.int (nI (i + 1)))]) dX10_isStarted_44 rfl (xinc i) (by decide) rfl ?_
        refine xi_goto 15 dX10_isStarted_47 (by decide) ?_
        rw [if_neg (by rw [h23]; decide)] at h
        rw [show decide (¬ A i = 4096) = false by simp [h35]] at h
        exact ih (i + 1) false (by omega) h
      · skip
        refine xi_iconst (v := 1) dX10_isStarted_38 rfl ?_
        refine xi_goto 43 dX10_isStarted_39 (by decide) ?_
        refine xi_istore_n (lv' := [some (.ref 0), some (.int 1), some (.int (nI i))]) dX10_isStarted_43 (by decide) rfl ?_
        refine xi_iinc (v := nI (i + 1)) (lv' := [some (.ref 0), some (.int 1), some (.int (nI (i + 1)))]) dX10_isStarted_44 rfl (xinc i) (by decide) rfl ?_
        refine xi_goto 15 dX10_isStarted_47 (by decide) ?_
        rw [if_neg (by rw [h23]; decide)] at h
        rw [show decide (¬ A i = 4096) = true by simp [h35]] at h
        exact ih (i + 1) true (by omega) h

set_option maxHeartbeats 4000000 in
set_option maxRecDepth 100000 in
theorem o_started {G : xG} {S0 : xS} {now late risk : Nat} {A : Nat → Nat} {L : Nat → Bool} {sq : Nat → Nat} {nl : Nat} {rf hr : Int32} {lg : xE2} {w : xw} {tp : Nat → xT} {M : xM} {Q : Option Value → xM → Prop} (hX : wX (G, S0, now, late, risk, A, L, sq, nl, rf, hr, lg, w, tp)) (hC : RepM (G, S0, now, late, risk, A, L, sq, nl, rf, hr, lg, w, tp) M)  (h : Q (some (.int (xb (decide (0 < now ∨ 0 < nl))))) M) : WP shM mX10_isStarted 0 [some (.ref 0), none, none] [] M Q := by
  obtain ⟨hW, hw0, wn, wl, wr, wA_, wsq, wnl, wmo, wtk, wwt, wtp, wO0, wB0⟩ := id hX
  obtain ⟨b1, b2, b3, b4, b5, b6, b7, b8, b9, wmap, wlink, wk0, wk1, b10, b11, wword⟩ := id hW
  have nb : nl ≤ 2000 := by rw [wnl]; exact mcnt_le 2000
  obtain ⟨hG, hNS, hNA, hNL, hNH, hNE, hNQ, hNW, hNT, hNM⟩ := id hC
  obtain ⟨hno, hla, hri, hnl, hrf, hhr⟩ := id hNM
  obtain ⟨s, es⟩ : ∃ s, s = 112 * now := ⟨_, rfl⟩
  have hs : s ≤ 56000 := by omega
  have hS : RM G (Zf G A S0 now) M s := by rw [es]; exact hNS.1 now (Nat.le_refl _)
  have hw : wS G (Zf G A S0 now) := wS_Zf hW hw0 now
  refine xi_aload_n dX10_isStarted_0 rfl ?_
  refine xe_getI (v := nI now) dX10_isStarted_1 fgX10_110 mm0 rfl hno ?_
  refine xn_if_le now 11 dX10_isStarted_4 (by decide) rfl (by omega) (fun h4 => ?_) (fun h4 => ?_)
  · skip
    refine xi_iconst (v := 0) dX10_isStarted_11 rfl ?_
    refine xi_istore_n (lv' := [some (.ref 0), some (.int 0), none]) dX10_isStarted_12 (by decide) rfl ?_
    refine xi_iconst (v := 0) dX10_isStarted_13 rfl ?_
    refine xi_istore_n (lv' := [some (.ref 0), some (.int 0), some (.int 0)]) dX10_isStarted_14 (by decide) rfl ?_
    refine ol_started hX hC 2000 0 false (by omega) ?_
    rw [mst_cnt, ← wnl]
    rw [show decide (0 < now ∨ 0 < nl) = (false || decide (0 < nl)) by simp; omega] at h
    exact h
  · skip
    refine xi_iconst (v := 1) dX10_isStarted_7 rfl ?_
    refine xi_goto 12 dX10_isStarted_8 (by decide) ?_
    refine xi_istore_n (lv' := [some (.ref 0), some (.int 1), none]) dX10_isStarted_12 (by decide) rfl ?_
    refine xi_iconst (v := 0) dX10_isStarted_13 rfl ?_
    refine xi_istore_n (lv' := [some (.ref 0), some (.int 1), some (.int 0)]) dX10_isStarted_14 (by decide) rfl ?_
    refine ol_started hX hC 2000 0 true (by omega) ?_
    rw [mst_cnt, ← wnl]
    rw [show decide (0 < now ∨ 0 < nl) = (true || decide (0 < nl)) by simp; omega] at h
    exact h

set_option maxHeartbeats 4000000 in
set_option maxRecDepth 100000 in
theorem nl_hasT {G : xG} {S : xS} {M : xM} {Q : Option Value → xM → Prop} (hW : wG G) (hG : MG G M) (hS : RM G S M 0) {k : Nat} : ∀ (f n : Nat), n + f = gT G → Q (some (.int (xb (mhasF (sC S) (nI k) n f)))) M → WP shM mX10_hasThing 2 [some (.ref 0), some (.int (nI k)), some (.int (nI n))] [] M Q := by
  obtain ⟨b1, b2, b3, b4, b5, b6, b7, b8, b9, wmap, wlink, wk0, wk1, b10, b11, wword⟩ := id hW
  intro f
  induction f with
  | zero =>
    intro n hf h
    refine xi_iload_n dX10_hasThing_2 rfl ?_
    refine xi_aload_n dX10_hasThing_3 rfl ?_
    refine xe_getI (v := nI (gT G)) dX10_hasThing_4 fgX10_107 mm0 rfl (mg_T hG) ?_
    refine xn_icmp_ge n (gT G) 33 dX10_hasThing_7 (by decide) rfl rfl (by omega) (by omega) (fun h7 => ?_) (fun z => absurd z (by omega))
    refine xi_iconst (v := 0) dX10_hasThing_33 rfl ?_
    refine xi_zret (v := 0) dX10_hasThing_34 rfl (by decide) ?_
    exact h
  | succ f ih =>
    intro n hf h
    rw [mhasF] at h
    refine xi_iload_n dX10_hasThing_2 rfl ?_
    refine xi_aload_n dX10_hasThing_3 rfl ?_
    refine xe_getI (v := nI (gT G)) dX10_hasThing_4 fgX10_107 mm0 rfl (mg_T hG) ?_
    refine xn_icmp_ge n (gT G) 33 dX10_hasThing_7 (by decide) rfl rfl (by omega) (by omega) (fun z => absurd z (by omega)) (fun h7 => ?_)
    refine xi_aload_n dX10_hasThing_10 rfl ?_
    refine xi_getR dX10_hasThing_11 fgX10_39 mm0 rfl ?_
    refine xi_bipush (v := 6) dX10_hasThing_14 (by decide) ?_
    refine xi_iload_n dX10_hasThing_16 rfl ?_
    refine xe_imul dX10_hasThing_17 (v := nI (6 * n)) (pk_mul 6 n) ?_
    refine xi_iconst (v := 0) dX10_hasThing_18 rfl ?_
    refine xe_iadd dX10_hasThing_19 (v := nI (6 * n + 0)) (nI_add (6 * n) 0) ?_
    refine xat 20 rfl ?_
    refine xe_iald (v := (sC S n)) (6 * n + 0) dX10_hasThing_20 mm5 (by decide) rfl (by omega) (show M.2.1 5 (6 * n + 0) = _ by have := rmC hS (n := n) (by omega); rw [Nat.zero_add] at this; exact this) ?_
    refine xi_iload_n dX10_hasThing_21 rfl ?_
    refine xi_icmp_ne 27 dX10_hasThing_22 (by decide) (fun h22 => ?_) (fun h22 => ?_)
    · skip
      refine xi_iinc (v := nI (n + 1)) (lv' := [some (.ref 0), some (.int (nI k)), some (.int (nI (n + 1)))]) dX10_hasThing_27 rfl (xinc n) (by decide) rfl ?_
      refine xi_goto 2 dX10_hasThing_30 (by decide) ?_
      rw [if_neg h22] at h
      exact ih (n + 1) (by omega) h
    · skip
      refine xi_iconst (v := 1) dX10_hasThing_25 rfl ?_
      refine xi_zret (v := 1) dX10_hasThing_26 rfl (by decide) ?_
      rw [if_pos h22] at h
      exact h

set_option maxHeartbeats 4000000 in
set_option maxRecDepth 100000 in
theorem n_hasT {G : xG} {S : xS} {M : xM} {Q : Option Value → xM → Prop} (hW : wG G) (hG : MG G M) (hS : RM G S M 0) {k : Nat} (h : Q (some (.int (xb (mhas G S k)))) M) : WP shM mX10_hasThing 0 [some (.ref 0), some (.int (nI k)), none] [] M Q := by
  refine xi_iconst (v := 0) dX10_hasThing_0 rfl ?_
  refine xi_istore_n (lv' := [some (.ref 0), some (.int (nI k)), some (.int 0)]) dX10_hasThing_1 (by decide) rfl ?_
  exact nl_hasT hW hG hS (gT G) 0 (by omega) h

