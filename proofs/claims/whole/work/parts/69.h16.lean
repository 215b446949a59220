def mnote (e : xE2) (a b c d : Int32) : xE2 := (e.1, e.2.1, e.2.2.1, e.2.2.2.1 + 1, if e.2.2.2.1 < 64 then (fun i => if i = 4 * e.2.2.2.1 then a else if i = 4 * e.2.2.2.1 + 1 then b else if i = 4 * e.2.2.2.1 + 2 then c else if i = 4 * e.2.2.2.1 + 3 then d else e.2.2.2.2 i) else e.2.2.2.2)
/-- the hits i .. i + f - 1 that are taken back -/
def mtb (H K : Nat → Nat) (now : Nat) : Nat → Nat → xE2 → xE2
  | _, 0, e => e
  | i, f + 1, e => mtb H K now (i + 1) f (if ¬ H i = 0 ∧ ¬ K i = H i then mnote e (nI (i / 4)) (nI (i % 4)) (nI (H i - 1)) (nI now) else e)
theorem mtb_add {H K : Nat → Nat} {now : Nat} : ∀ (a i b : Nat) (e : xE2), mtb H K now i (a + b) e = mtb H K now (i + a) b (mtb H K now i a e)
  | 0, i, b, e => by rw [Nat.zero_add, Nat.add_zero]; rfl
  | a + 1, i, b, e => by
    rw [show a + 1 + b = (a + b) + 1 by omega, mtb, mtb, mtb_add a (i + 1) b, show i + 1 + a = i + (a + 1) by omega]
theorem mtb_le {H K : Nat → Nat} {now : Nat} : ∀ (f i : Nat) (e : xE2), (mtb H K now i f e).2.2.2.1 ≤ e.2.2.2.1 + f
  | 0, i, e => Nat.le_refl _
  | f + 1, i, e => by
    rw [mtb]
    refine Nat.le_trans (mtb_le f (i + 1) _) ?_
    split
    · show e.2.2.2.1 + 1 + f ≤ _; omega
    · omega
theorem mtb_keep {H K : Nat → Nat} {now : Nat} : ∀ (f i : Nat) (e : xE2), (mtb H K now i f e).1 = e.1 ∧ (mtb H K now i f e).2.1 = e.2.1 ∧ (mtb H K now i f e).2.2.1 = e.2.2.1
  | 0, i, e => ⟨rfl, rfl, rfl⟩
  | f + 1, i, e => by
    rw [mtb]
    obtain ⟨h1, h2, h3⟩ := mtb_keep (H := H) (K := K) (now := now) f (i + 1) (if ¬ H i = 0 ∧ ¬ K i = H i then mnote e (nI (i / 4)) (nI (i % 4)) (nI (H i - 1)) (nI now) else e)
    rw [h1, h2, h3]
    split <;> exact ⟨rfl, rfl, rfl⟩
def FE (M M2 : xM) : Prop := (∀ a, ¬ a = 17 → M2.1 a = M.1 a) ∧ M2.2.2 = M.2.2 ∧ ∀ a, ¬ a = 18 → M2.2.1 a = M.2.1 a
theorem FE.rf {M : xM} : FE M M := ⟨fun _ _ => rfl, rfl, fun _ _ => rfl⟩
theorem FE.tr {M M1 M2 : xM} (h : FE M M1) (h2 : FE M1 M2) : FE M M2 := ⟨fun a ha => (h2.1 a ha).trans (h.1 a ha), h2.2.1.trans h.2.1, fun a ha => (h2.2.2 a ha).trans (h.2.2 a ha)⟩
theorem note_row {R : Nat → Int32} {e : xE2} {a b c d : Int32} (h : e.2.2.2.1 < 64) (hR : ∀ i, i < 4 * min e.2.2.2.1 64 → R i = e.2.2.2.2 i) : ∀ i, i < 4 * min (mnote e a b c d).2.2.2.1 64 → (upd (upd (upd (upd R (4 * e.2.2.2.1) a) (4 * e.2.2.2.1 + 1) b) (4 * e.2.2.2.1 + 2) c) (4 * e.2.2.2.1 + 3) d) i = (mnote e a b c d).2.2.2.2 i := by
  intro i hi
  change i < 4 * min (e.2.2.2.1 + 1) 64 at hi
  show _ = (if e.2.2.2.1 < 64 then (fun i => if i = 4 * e.2.2.2.1 then a else if i = 4 * e.2.2.2.1 + 1 then b else if i = 4 * e.2.2.2.1 + 2 then c else if i = 4 * e.2.2.2.1 + 3 then d else e.2.2.2.2 i) else e.2.2.2.2) i
  rw [if_pos h]
  by_cases q3 : i = 4 * e.2.2.2.1 + 3
  · rw [q3, upd_s, if_neg (by omega), if_neg (by omega), if_neg (by omega), if_pos rfl]
  by_cases q2 : i = 4 * e.2.2.2.1 + 2
  · rw [q2, upd_n (by omega), upd_s, if_neg (by omega), if_neg (by omega), if_pos rfl]
  by_cases q1 : i = 4 * e.2.2.2.1 + 1
  · rw [q1, upd_n (by omega), upd_n (by omega), upd_s, if_neg (by omega), if_pos rfl]
  by_cases q0 : i = 4 * e.2.2.2.1
  · rw [q0, upd_n (by omega), upd_n (by omega), upd_n (by omega), upd_s, if_pos rfl]
  rw [upd_n q3, upd_n q2, upd_n q1, upd_n q0, if_neg q0, if_neg q1, if_neg q2, if_neg q3]
  exact hR i (by omega)
theorem note_full {R : Nat → Int32} {e : xE2} {a b c d : Int32} (h : ¬ e.2.2.2.1 < 64) (hR : ∀ i, i < 4 * min e.2.2.2.1 64 → R i = e.2.2.2.2 i) : ∀ i, i < 4 * min (mnote e a b c d).2.2.2.1 64 → R i = (mnote e a b c d).2.2.2.2 i := by
  intro i hi
  change i < 4 * min (e.2.2.2.1 + 1) 64 at hi
  show _ = (if e.2.2.2.1 < 64 then (fun i => if i = 4 * e.2.2.2.1 then a else if i = 4 * e.2.2.2.1 + 1 then b else if i = 4 * e.2.2.2.1 + 2 then c else if i = 4 * e.2.2.2.1 + 3 then d else e.2.2.2.2 i) else e.2.2.2.2) i
  rw [if_neg h]
  exact hR i (by omega)
set_option maxHeartbeats 4000000 in
set_option maxRecDepth 100000 in
theorem e_note {M : xM} {Q : Option Value → xM → Prop} {e : xE2} {a b c d : Int32} (hE : KE e M) (hb : e.2.2.2.1 < 2 ^ 30) (h : ∀ M2, FE M M2 → KE (mnote e a b c d) M2 → Q none M2) : WP shC mX2_noteTakenBack 0 [some (.ref 17), some (.int a), some (.int b), some (.int c), some (.int d)] [] M Q := by
  refine xi_aload_n dX2_noteTakenBack_0 rfl ?_
  refine xe_getI (v := nI e.2.2.2.1) dX2_noteTakenBack_1 fgX2_28 cc17 rfl hE.2.2.2.1 ?_
  refine xi_bipush (v := 64) dX2_noteTakenBack_4 (by decide) ?_
  refine xn_icmp_ge e.2.2.2.1 64 64 dX2_noteTakenBack_6 (by decide) rfl rfl (by omega) (by omega) (fun h6 => ?_) (fun h6 => ?_)
  · skip
    refine xi_aload_n dX2_noteTakenBack_64 rfl ?_
    refine xi_dup dX2_noteTakenBack_65 rfl ?_
    refine xe_getI (v := nI e.2.2.2.1) dX2_noteTakenBack_66 fgX2_28 cc17 rfl hE.2.2.2.1 ?_
    refine xi_iconst (v := 1) dX2_noteTakenBack_69 rfl ?_
    refine xe_iadd dX2_noteTakenBack_70 (v := nI (e.2.2.2.1 + 1)) (nI_add e.2.2.2.1 1) ?_
    refine xi_put dX2_noteTakenBack_71 fpX2_28 cc17 rfl ?_
    refine xi_vret dX2_noteTakenBack_74 rfl ?_
    exact h _ ⟨fun a ha => xf_o ha, rfl, fun a ha => rfl⟩ ⟨(xf_k (by decide)).trans hE.1, (xf_k (by decide)).trans hE.2.1, (xf_k (by decide)).trans hE.2.2.1, xf_s, note_full (by omega) hE.2.2.2.2⟩
  · skip
    refine xi_aload_n dX2_noteTakenBack_9 rfl ?_
    refine xi_getR dX2_noteTakenBack_10 fgX2_9 cc17 rfl ?_
    refine xi_aload_n dX2_noteTakenBack_13 rfl ?_
    refine xe_getI (v := nI e.2.2.2.1) dX2_noteTakenBack_14 fgX2_28 cc17 rfl hE.2.2.2.1 ?_
    refine xi_iconst (v := 4) dX2_noteTakenBack_17 rfl ?_
    refine xe_imul dX2_noteTakenBack_18 (v := nI (e.2.2.2.1 * 4)) (pk_mul e.2.2.2.1 4) ?_
    refine xi_iload_n dX2_noteTakenBack_19 rfl ?_
    refine xe_iast (e.2.2.2.1 * 4) dX2_noteTakenBack_20 cc18 (by decide) rfl (by omega) ?_
    refine xi_aload_n dX2_noteTakenBack_21 rfl ?_
    refine xi_getR dX2_noteTakenBack_22 fgX2_9 cc17 rfl ?_
    refine xi_aload_n dX2_noteTakenBack_25 rfl ?_
    refine xat 26 rfl ?_
    refine xe_getI (v := nI e.2.2.2.1) dX2_noteTakenBack_26 fgX2_28 cc17 rfl hE.2.2.2.1 ?_
    refine xi_iconst (v := 4) dX2_noteTakenBack_29 rfl ?_
    refine xe_imul dX2_noteTakenBack_30 (v := nI (e.2.2.2.1 * 4)) (pk_mul e.2.2.2.1 4) ?_
    refine xi_iconst (v := 1) dX2_noteTakenBack_31 rfl ?_
    refine xe_iadd dX2_noteTakenBack_32 (v := nI (e.2.2.2.1 * 4 + 1)) (nI_add (e.2.2.2.1 * 4) 1) ?_
    refine xi_iload_n dX2_noteTakenBack_33 rfl ?_
    refine xe_iast (e.2.2.2.1 * 4 + 1) dX2_noteTakenBack_34 cc18 (by decide) rfl (by omega) ?_
    refine xi_aload_n dX2_noteTakenBack_35 rfl ?_
    refine xi_getR dX2_noteTakenBack_36 fgX2_9 cc17 rfl ?_
    refine xi_aload_n dX2_noteTakenBack_39 rfl ?_
    refine xe_getI (v := nI e.2.2.2.1) dX2_noteTakenBack_40 fgX2_28 cc17 rfl hE.2.2.2.1 ?_
    refine xi_iconst (v := 4) dX2_noteTakenBack_43 rfl ?_
    refine xat 44 rfl ?_
    refine xe_imul dX2_noteTakenBack_44 (v := nI (e.2.2.2.1 * 4)) (pk_mul e.2.2.2.1 4) ?_
    refine xi_iconst (v := 2) dX2_noteTakenBack_45 rfl ?_
    refine xe_iadd dX2_noteTakenBack_46 (v := nI (e.2.2.2.1 * 4 + 2)) (nI_add (e.2.2.2.1 * 4) 2) ?_
    refine xi_iload_n dX2_noteTakenBack_47 rfl ?_
    refine xe_iast (e.2.2.2.1 * 4 + 2) dX2_noteTakenBack_48 cc18 (by decide) rfl (by omega) ?_
    refine xi_aload_n dX2_noteTakenBack_49 rfl ?_
    refine xi_getR dX2_noteTakenBack_50 fgX2_9 cc17 rfl ?_
    refine xi_aload_n dX2_noteTakenBack_53 rfl ?_
    refine xe_getI (v := nI e.2.2.2.1) dX2_noteTakenBack_54 fgX2_28 cc17 rfl hE.2.2.2.1 ?_
    refine xi_iconst (v := 4) dX2_noteTakenBack_57 rfl ?_
    refine xe_imul dX2_noteTakenBack_58 (v := nI (e.2.2.2.1 * 4)) (pk_mul e.2.2.2.1 4) ?_
    refine xi_iconst (v := 3) dX2_noteTakenBack_59 rfl ?_
    refine xat 60 rfl ?_
    refine xe_iadd dX2_noteTakenBack_60 (v := nI (e.2.2.2.1 * 4 + 3)) (nI_add (e.2.2.2.1 * 4) 3) ?_
    refine xi_iload dX2_noteTakenBack_61 rfl ?_
    refine xe_iast (e.2.2.2.1 * 4 + 3) dX2_noteTakenBack_63 cc18 (by decide) rfl (by omega) ?_
    refine xi_aload_n dX2_noteTakenBack_64 rfl ?_
    refine xi_dup dX2_noteTakenBack_65 rfl ?_
    refine xe_getI (v := nI e.2.2.2.1) dX2_noteTakenBack_66 fgX2_28 cc17 rfl hE.2.2.2.1 ?_
    refine xi_iconst (v := 1) dX2_noteTakenBack_69 rfl ?_
    refine xe_iadd dX2_noteTakenBack_70 (v := nI (e.2.2.2.1 + 1)) (nI_add e.2.2.2.1 1) ?_
    refine xi_put dX2_noteTakenBack_71 fpX2_28 cc17 rfl ?_
    refine xi_vret dX2_noteTakenBack_74 rfl ?_
    refine h _ ⟨fun a ha => xf_o ha, rfl, fun a ha => ?_⟩ ⟨(xf_k (by decide)).trans hE.1, (xf_k (by decide)).trans hE.2.1, (xf_k (by decide)).trans hE.2.2.1, xf_s, ?_⟩
    · rw [xf_a, xa_n ha, xa_n ha, xa_n ha, xa_n ha]
    · have hr := note_row (a := a) (b := b) (c := c) (d := d) h6 hE.2.2.2.2
      rw [xf_a, xa_s, xa_s, xa_s, xa_s]
      rw [Nat.mul_comm e.2.2.2.1 4]
      exact hr

set_option maxHeartbeats 4000000 in
set_option maxRecDepth 100000 in
theorem el_keep {A H : Nat → Nat} {L : Nat → Bool} {Q : Option Value → xM → Prop} {fr now : Nat} (hn : now ≤ 500) (hf8 : now ≤ fr + 8) {t : Nat} (h1 : fr ≤ t) (h2 : t < now) : ∀ (f p : Nat) (M : xM), p + f = 4 → CLg A H L M → (∀ j, j < 4 * (t - fr) + p → M.2.1 19 j = nI (H (4 * fr + j))) → (∀ M2, (M2.1 = M.1 ∧ M2.2.2 = M.2.2 ∧ ∀ a, ¬ a = 19 → M2.2.1 a = M.2.1 a) → CLg A H L M2 → (∀ j, j < 4 * (t - fr) + 4 → M2.2.1 19 j = nI (H (4 * fr + j))) → WP shC mX2_keepHits 46 [some (.ref 17), some (.ref 13), some (.int (nI fr)), some (.int (nI now)), some (.int (nI t)), some (.int (nI 4))] [] M2 Q) → WP shC mX2_keepHits 12 [some (.ref 17), some (.ref 13), some (.int (nI fr)), some (.int (nI now)), some (.int (nI t)), some (.int (nI p))] [] M Q := by
  intro f
  induction f with
  | zero =>
    intro p M hp hL hI h
    refine xi_iload dX2_keepHits_12 rfl ?_
    refine xi_iconst (v := 4) dX2_keepHits_14 rfl ?_
    refine xn_icmp_ge p 4 46 dX2_keepHits_15 (by decide) rfl rfl (by omega) (by omega) (fun h15 => ?_) (fun z => absurd z (by omega))
    obtain rfl : p = 4 := by omega
    exact h M ⟨rfl, rfl, fun _ _ => rfl⟩ hL (fun j hj => hI j (by omega))
  | succ f ih =>
    intro p M hp hL hI h
    refine xi_iload dX2_keepHits_12 rfl ?_
    refine xi_iconst (v := 4) dX2_keepHits_14 rfl ?_
    refine xn_icmp_ge p 4 46 dX2_keepHits_15 (by decide) rfl rfl (by omega) (by omega) (fun z => absurd z (by omega)) (fun h15 => ?_)
    refine xi_aload_n dX2_keepHits_18 rfl ?_
    refine xi_getR dX2_keepHits_19 fgX2_15 cc17 rfl ?_
    refine xi_iload dX2_keepHits_22 rfl ?_
    refine xi_iload_n dX2_keepHits_24 rfl ?_
    refine xe_isub dX2_keepHits_25 (v := nI (t - fr)) (pk_sub (by omega)) ?_
    refine xi_iconst (v := 4) dX2_keepHits_26 rfl ?_
    refine xe_imul dX2_keepHits_27 (v := nI ((t - fr) * 4)) (pk_mul (t - fr) 4) ?_
    refine xi_iload dX2_keepHits_28 rfl ?_
    refine xat 30 rfl ?_
    refine xe_iadd dX2_keepHits_30 (v := nI ((t - fr) * 4 + p)) (nI_add ((t - fr) * 4) p) ?_
    refine xi_aload_n dX2_keepHits_31 rfl ?_
    refine xi_iload dX2_keepHits_32 rfl ?_
    refine xi_iload dX2_keepHits_34 rfl ?_
    refine xi_callV [.int (nI t), .int (nI p)] [.int (nI ((t - fr) * 4 + p)), .ref 19] dX2_keepHits_36 zX3_hitOf mlX2_31 cc13 rfl rfl rfl rfl rfl (Nat.le_of_ble_eq_true rfl) (Nat.le_of_ble_eq_true rfl) ⟨by decide, by decide⟩ ?_
    refine g_hit hL (t := t) (p := p) (by omega) (by omega) ?_
    show WP _ _ 39 _ [.int (nI (H (t * 4 + p))), .int (nI ((t - fr) * 4 + p)), .ref 19] _ _
    refine xe_iast ((t - fr) * 4 + p) dX2_keepHits_39 cc19 (by decide) rfl (by omega) ?_
    generalize eM1 : (xa M 19 (upd (M.2.1 19) ((t - fr) * 4 + p) (nI (H (t * 4 + p))))) = M1
    have F1 : (M1.1 = M.1 ∧ M1.2.2 = M.2.2 ∧ ∀ a, ¬ a = 19 → M1.2.1 a = M.2.1 a) := by rw [← eM1]; exact ⟨rfl, rfl, fun a ha => xa_n ha⟩
    have hL1 : CLg A H L M1 := hL.keep (F1.2.2 14 (by decide)) (F1.2.2 15 (by decide)) (F1.2.2 16 (by decide))
    have hI1 : ∀ j, j < 4 * (t - fr) + (p + 1) → M1.2.1 19 j = nI (H (4 * fr + j)) := by
      intro j hj
      rw [← eM1, xa_s]
      by_cases q : j = (t - fr) * 4 + p
      · rw [q, upd_s]; congr 2; omega
      · rw [upd_n q]; exact hI j (by omega)
    refine xi_iinc (v := nI (p + 1)) (lv' := [some (.ref 17), some (.ref 13), some (.int (nI fr)), some (.int (nI now)), some (.int (nI t)), some (.int (nI (p + 1)))]) dX2_keepHits_40 rfl (xinc p) (by decide) rfl ?_
    refine xi_goto 12 dX2_keepHits_43 (by decide) ?_
    exact ih (p + 1) M1 (by omega) hL1 hI1 (fun M2 F2 hL2 z => h M2 ⟨F2.1.trans F1.1, F2.2.1.trans F1.2.1, fun a ha => (F2.2.2 a ha).trans (F1.2.2 a ha)⟩ hL2 z)

set_option maxHeartbeats 4000000 in
set_option maxRecDepth 100000 in
theorem eo_keep {A H : Nat → Nat} {L : Nat → Bool} {Q : Option Value → xM → Prop} {fr now : Nat} (hn : now ≤ 500) (hf8 : now ≤ fr + 8) : ∀ (f t : Nat) (M : xM), t + f = now → fr ≤ t → CLg A H L M → (∀ j, j < 4 * (t - fr) → M.2.1 19 j = nI (H (4 * fr + j))) → (∀ M2, (M2.1 = M.1 ∧ M2.2.2 = M.2.2 ∧ ∀ a, ¬ a = 19 → M2.2.1 a = M.2.1 a) → (∀ j, j < 4 * (now - fr) → M2.2.1 19 j = nI (H (4 * fr + j))) → Q none M2) → WP shC mX2_keepHits 3 [some (.ref 17), some (.ref 13), some (.int (nI fr)), some (.int (nI now)), some (.int (nI t)), none] [] M Q := by
  intro f
  induction f with
  | zero =>
    intro t M hf h1 hL hI h
    refine xi_iload dX2_keepHits_3 rfl ?_
    refine xi_iload_n dX2_keepHits_5 rfl ?_
    refine xn_icmp_ge t now 52 dX2_keepHits_6 (by decide) rfl rfl (by omega) (by omega) (fun h6 => ?_) (fun z => absurd z (by omega))
    refine xi_vret dX2_keepHits_52 rfl ?_
    exact h M ⟨rfl, rfl, fun _ _ => rfl⟩ (fun j hj => hI j (by omega))
  | succ f ih =>
    intro t M hf h1 hL hI h
    refine xi_iload dX2_keepHits_3 rfl ?_
    refine xi_iload_n dX2_keepHits_5 rfl ?_
    refine xn_icmp_ge t now 52 dX2_keepHits_6 (by decide) rfl rfl (by omega) (by omega) (fun z => absurd z (by omega)) (fun h6 => ?_)
    refine xi_iconst (v := 0) dX2_keepHits_9 rfl ?_
    refine xi_istore (lv' := [some (.ref 17), some (.ref 13), some (.int (nI fr)), some (.int (nI now)), some (.int (nI t)), some (.int 0)]) dX2_keepHits_10 (by decide) rfl ?_
    refine el_keep hn hf8 (t := t) h1 (by omega) 4 0 M (by omega) hL hI (fun M1 F1 hL1 hI1 => ?_)
    refine xi_iinc (v := nI (t + 1)) (lv' := [some (.ref 17), some (.ref 13), some (.int (nI fr)), some (.int (nI now)), some (.int (nI (t + 1))), some (.int (nI 4))]) dX2_keepHits_46 rfl (xinc t) (by decide) rfl ?_
    refine xi_goto 3 dX2_keepHits_49 (by decide) ?_
    refine xi_drop [true, true, true, true, true, false] rfl ?_
    exact ih (t + 1) M1 (by omega) (by omega) hL1 (fun j hj => hI1 j (by omega)) (fun M2 F2 z => h M2 ⟨F2.1.trans F1.1, F2.2.1.trans F1.2.1, fun a ha => (F2.2.2 a ha).trans (F1.2.2 a ha)⟩ z)

set_option maxHeartbeats 4000000 in
set_option maxRecDepth 100000 in
theorem e_keep {A H : Nat → Nat} {L : Nat → Bool} {Q : Option Value → xM → Prop} {fr now : Nat} (hn : now ≤ 500) (hf8 : now ≤ fr + 8) {M : xM} (hft : fr ≤ now) (hL : CLg A H L M) (h : ∀ M2, (M2.1 = M.1 ∧ M2.2.2 = M.2.2 ∧ ∀ a, ¬ a = 19 → M2.2.1 a = M.2.1 a) → (∀ j, j < 4 * (now - fr) → M2.2.1 19 j = nI (H (4 * fr + j))) → Q none M2) : WP shC mX2_keepHits 0 [some (.ref 17), some (.ref 13), some (.int (nI fr)), some (.int (nI now)), none, none] [] M Q := by
  refine xi_iload_n dX2_keepHits_0 rfl ?_
  refine xi_istore (lv' := [some (.ref 17), some (.ref 13), some (.int (nI fr)), some (.int (nI now)), some (.int (nI fr)), none]) dX2_keepHits_1 (by decide) rfl ?_
  exact eo_keep hn hf8 (now - fr) fr M (by omega) (Nat.le_refl _) hL (fun j hj => by omega) h

set_option maxHeartbeats 4000000 in
set_option maxRecDepth 100000 in
theorem el_gb {A H K : Nat → Nat} {L : Nat → Bool} {Q : Option Value → xM → Prop} {fr now B : Nat} (hn : now ≤ 500) (hf8 : now ≤ fr + 8) (hB : B < 2 ^ 30) (hH : ∀ i, H i ≤ 16) {t : Nat} (h1 : fr ≤ t) (h2 : t < now) : ∀ (f p : Nat) (M : xM) (e : xE2), p + f = 4 → CLg A K L M → (∀ j, j < 4 * (now - fr) → M.2.1 19 j = nI (H (4 * fr + j))) → KE e M → e.2.2.2.1 + f ≤ B → (∀ M2, FE M M2 → KE (mtb H K now (4 * t + p) f e) M2 → WP shC mX2_noteGoingBack 107 [some (.ref 17), some (.ref 13), some (.int (nI fr)), some (.int (nI now)), some (.int (nI t)), some (.int (nI 4)), none] [] M2 Q) → WP shC mX2_noteGoingBack 48 [some (.ref 17), some (.ref 13), some (.int (nI fr)), some (.int (nI now)), some (.int (nI t)), some (.int (nI p)), none] [] M Q := by
  intro f
  induction f with
  | zero =>
    intro p M e hp hL hI hE hb h
    refine xi_iload dX2_noteGoingBack_48 rfl ?_
    refine xi_iconst (v := 4) dX2_noteGoingBack_50 rfl ?_
    refine xn_icmp_ge p 4 107 dX2_noteGoingBack_51 (by decide) rfl rfl (by omega) (by omega) (fun h51 => ?_) (fun z => absurd z (by omega))
    obtain rfl : p = 4 := by omega
    exact h M FE.rf hE
  | succ f ih =>
    intro p M e hp hL hI hE hb h
    rw [mtb] at h
    refine xi_iload dX2_noteGoingBack_48 rfl ?_
    refine xi_iconst (v := 4) dX2_noteGoingBack_50 rfl ?_
    refine xn_icmp_ge p 4 107 dX2_noteGoingBack_51 (by decide) rfl rfl (by omega) (by omega) (fun z => absurd z (by omega)) (fun h51 => ?_)
    refine xi_aload_n dX2_noteGoingBack_54 rfl ?_
    refine xi_getR dX2_noteGoingBack_55 fgX2_15 cc17 rfl ?_
    refine xi_iload dX2_noteGoingBack_58 rfl ?_
    refine xi_iload_n dX2_noteGoingBack_60 rfl ?_
    refine xe_isub dX2_noteGoingBack_61 (v := nI (t - fr)) (pk_sub (by omega)) ?_
    refine xi_iconst (v := 4) dX2_noteGoingBack_62 rfl ?_
    refine xe_imul dX2_noteGoingBack_63 (v := nI ((t - fr) * 4)) (pk_mul (t - fr) 4) ?_
    refine xi_iload dX2_noteGoingBack_64 rfl ?_
    refine xat 66 rfl ?_
    refine xe_iadd dX2_noteGoingBack_66 (v := nI ((t - fr) * 4 + p)) (nI_add ((t - fr) * 4) p) ?_
    have q19 := hH (4 * t + p)
    refine xe_iald (v := nI (H (4 * t + p))) ((t - fr) * 4 + p) dX2_noteGoingBack_67 cc19 (by decide) rfl (by omega) (show M.2.1 19 ((t - fr) * 4 + p) = nI (H (4 * t + p)) by rw [hI _ (by omega)]; congr 2; omega) ?_
    refine xi_istore (lv' := [some (.ref 17), some (.ref 13), some (.int (nI fr)), some (.int (nI now)), some (.int (nI t)), some (.int (nI p)), some (.int (nI (H (4 * t + p))))]) dX2_noteGoingBack_68 (by decide) rfl ?_
    refine xi_iload dX2_noteGoingBack_70 rfl ?_
    refine xn_if_eq (H (4 * t + p)) 101 dX2_noteGoingBack_72 (by decide) rfl (by omega) (fun h72 => ?_) (fun h72 => ?_)
    · skip
      refine xi_iinc (v := nI (p + 1)) (lv' := [some (.ref 17), some (.ref 13), some (.int (nI fr)), some (.int (nI now)), some (.int (nI t)), some (.int (nI (p + 1))), some (.int (nI (H (4 * t + p))))]) dX2_noteGoingBack_101 rfl (xinc p) (by decide) rfl ?_
      refine xi_goto 48 dX2_noteGoingBack_104 (by decide) ?_
      refine xi_drop [true, true, true, true, true, true, false] rfl ?_
      rw [if_neg (fun q => by first | exact q.1 h72 | exact q.2 (by rw [show K (4 * t + p) = K (t * 4 + p) by rw [Nat.mul_comm]]; exact h85.symm))] at h
      exact ih (p + 1) M e (by omega) hL hI hE (by omega) h
    · skip
      refine xi_iload dX2_noteGoingBack_75 rfl ?_
      refine xi_aload_n dX2_noteGoingBack_77 rfl ?_
      refine xi_iload dX2_noteGoingBack_78 rfl ?_
      refine xi_iload dX2_noteGoingBack_80 rfl ?_
      refine xi_callV [.int (nI t), .int (nI p)] [.int (nI (H (4 * t + p)))] dX2_noteGoingBack_82 zX3_hitOf mlX2_31 cc13 rfl rfl rfl rfl rfl (Nat.le_of_ble_eq_true rfl) (Nat.le_of_ble_eq_true rfl) ⟨by decide, by decide⟩ ?_
      refine g_hit hL (t := t) (p := p) (by omega) (by omega) ?_
      show WP _ _ 85 _ [.int (nI (K (t * 4 + p))), .int (nI (H (4 * t + p)))] _ _
      have qk := clHb hL (t * 4 + p)
      refine xn_icmp_eq (H (4 * t + p)) (K (t * 4 + p)) 101 dX2_noteGoingBack_85 (by decide) rfl rfl (by omega) (by omega) (fun h85 => ?_) (fun h85 => ?_)
      · skip
        refine xi_iinc (v := nI (p + 1)) (lv' := [some (.ref 17), some (.ref 13), some (.int (nI fr)), some (.int (nI now)), some (.int (nI t)), some (.int (nI (p + 1))), some (.int (nI (H (4 * t + p))))]) dX2_noteGoingBack_101 rfl (xinc p) (by decide) rfl ?_
        refine xi_goto 48 dX2_noteGoingBack_104 (by decide) ?_
        refine xi_drop [true, true, true, true, true, true, false] rfl ?_
        rw [if_neg (fun q => by first | exact q.1 h72 | exact q.2 (by rw [show K (4 * t + p) = K (t * 4 + p) by rw [Nat.mul_comm]]; exact h85.symm))] at h
        exact ih (p + 1) M e (by omega) hL hI hE (by omega) h
      · skip
        refine xi_aload_n dX2_noteGoingBack_88 rfl ?_
        refine xi_iload dX2_noteGoingBack_89 rfl ?_
        refine xi_iload dX2_noteGoingBack_91 rfl ?_
        refine xi_iload dX2_noteGoingBack_93 rfl ?_
        refine xi_iconst (v := 1) dX2_noteGoingBack_95 rfl ?_
        refine xe_isub dX2_noteGoingBack_96 (v := nI (H (4 * t + p) - 1)) (pk_sub (b := 1) (by omega)) ?_
        refine xi_iload_n dX2_noteGoingBack_97 rfl ?_
        refine xi_callV [.int (nI t), .int (nI p), .int (nI (H (4 * t + p) - 1)), .int (nI now)] [] dX2_noteGoingBack_98 zX2_noteTakenBack mlX2_42 cc17 rfl rfl rfl rfl rfl (Nat.le_of_ble_eq_true rfl) (Nat.le_of_ble_eq_true rfl) ⟨by decide, by decide⟩ ?_
        have e12 : K (4 * t + p) = K (t * 4 + p) := by rw [Nat.mul_comm]
        rw [if_pos ⟨h72, fun z => h85 (by rw [← z, e12])⟩] at h
        refine e_note hE (a := nI t) (b := nI p) (c := nI (H (4 * t + p) - 1)) (d := nI now) (by omega) (fun M1 F1 E1 => ?_)
        rw [show (4 * t + p) / 4 = t by omega, show (4 * t + p) % 4 = p by omega] at h
        show WP _ _ 101 _ [] _ _
        refine xi_iinc (v := nI (p + 1)) (lv' := [some (.ref 17), some (.ref 13), some (.int (nI fr)), some (.int (nI now)), some (.int (nI t)), some (.int (nI (p + 1))), some (.int (nI (H (4 * t + p))))]) dX2_noteGoingBack_101 rfl (xinc p) (by decide) rfl ?_
        refine xi_goto 48 dX2_noteGoingBack_104 (by decide) ?_
        refine xi_drop [true, true, true, true, true, true, false] rfl ?_
        refine ih (p + 1) M1 _ (by omega) (hL.keep (F1.2.2 14 (by decide)) (F1.2.2 15 (by decide)) (F1.2.2 16 (by decide))) (by rw [F1.2.2 19 (by decide)]; exact hI) E1 (show e.2.2.2.1 + 1 + f ≤ B by omega) (fun M2 F2 z => h M2 (F1.tr F2) z)

set_option maxHeartbeats 4000000 in
set_option maxRecDepth 100000 in
theorem eo_gb {A H K : Nat → Nat} {L : Nat → Bool} {Q : Option Value → xM → Prop} {fr now B : Nat} (hn : now ≤ 500) (hf8 : now ≤ fr + 8) (hB : B < 2 ^ 30) (hH : ∀ i, H i ≤ 16) : ∀ (f t : Nat) (M : xM) (e : xE2), t + f = now → fr ≤ t → CLg A K L M → (∀ j, j < 4 * (now - fr) → M.2.1 19 j = nI (H (4 * fr + j))) → KE e M → e.2.2.2.1 + 4 * f ≤ B → (∀ M2, FE M M2 → KE (mtb H K now (4 * t) (4 * f) e) M2 → Q none M2) → WP shC mX2_noteGoingBack 39 [some (.ref 17), some (.ref 13), some (.int (nI fr)), some (.int (nI now)), some (.int (nI t)), none, none] [] M Q := by
  intro f
  induction f with
  | zero =>
    intro t M e hf h1 hL hI hE hb h
    refine xi_iload dX2_noteGoingBack_39 rfl ?_
    refine xi_iload_n dX2_noteGoingBack_41 rfl ?_
    refine xn_icmp_ge t now 113 dX2_noteGoingBack_42 (by decide) rfl rfl (by omega) (by omega) (fun h42 => ?_) (fun z => absurd z (by omega))
    refine xi_vret dX2_noteGoingBack_113 rfl ?_
    exact h M FE.rf hE
  | succ f ih =>
    intro t M e hf h1 hL hI hE hb h
    refine xi_iload dX2_noteGoingBack_39 rfl ?_
    refine xi_iload_n dX2_noteGoingBack_41 rfl ?_
    refine xn_icmp_ge t now 113 dX2_noteGoingBack_42 (by decide) rfl rfl (by omega) (by omega) (fun z => absurd z (by omega)) (fun h42 => ?_)
    refine xi_iconst (v := 0) dX2_noteGoingBack_45 rfl ?_
    refine xi_istore (lv' := [some (.ref 17), some (.ref 13), some (.int (nI fr)), some (.int (nI now)), some (.int (nI t)), some (.int 0), none]) dX2_noteGoingBack_46 (by decide) rfl ?_
    refine el_gb hn hf8 hB hH (t := t) h1 (by omega) 4 0 M e (by omega) hL hI hE (by omega) (fun M1 F1 E1 => ?_)
    refine xi_iinc (v := nI (t + 1)) (lv' := [some (.ref 17), some (.ref 13), some (.int (nI fr)), some (.int (nI now)), some (.int (nI (t + 1))), some (.int (nI 4)), none]) dX2_noteGoingBack_107 rfl (xinc t) (by decide) rfl ?_
    refine xi_goto 39 dX2_noteGoingBack_110 (by decide) ?_
    refine xi_drop [true, true, true, true, true, false, false] rfl ?_
    have hm := mtb_le (H := H) (K := K) (now := now) 4 (4 * t + 0) e
    refine ih (t + 1) M1 _ (by omega) (by omega) (hL.keep (F1.2.2 14 (by decide)) (F1.2.2 15 (by decide)) (F1.2.2 16 (by decide))) (by rw [F1.2.2 19 (by decide)]; exact hI) E1 (by omega) (fun M2 F2 z => h M2 (F1.tr F2) ?_)
    rw [show 4 * (f + 1) = 4 + 4 * f by omega, mtb_add]
    exact z

set_option maxHeartbeats 4000000 in
set_option maxRecDepth 100000 in
theorem e_gb {A H K : Nat → Nat} {L : Nat → Bool} {Q : Option Value → xM → Prop} {fr now B : Nat} (hn : now ≤ 500) (hf8 : now ≤ fr + 8) (hB : B < 2 ^ 30) (hH : ∀ i, H i ≤ 16) {M : xM} {e : xE2} (hft : fr ≤ now) (hL : CLg A K L M) (hI : (∀ j, j < 4 * (now - fr) → M.2.1 19 j = nI (H (4 * fr + j)))) (hE : KE e M) (hb : e.2.2.2.1 + 32 ≤ B) (hm8 : e.2.2.1 ≤ 8) (h : ∀ M2, FE M M2 → KE (mtb H K now (4 * fr) (4 * (now - fr)) (e.1 + 1, e.2.1 + (now - fr), max e.2.2.1 (now - fr), e.2.2.2.1, e.2.2.2.2)) M2 → Q none M2) : WP shC mX2_noteGoingBack 0 [some (.ref 17), some (.ref 13), some (.int (nI fr)), some (.int (nI now)), none, none, none] [] M Q := by
  refine xi_aload_n dX2_noteGoingBack_0 rfl ?_
  refine xi_dup dX2_noteGoingBack_1 rfl ?_
  refine xe_getI (v := nI e.1) dX2_noteGoingBack_2 fgX2_18 cc17 rfl hE.1 ?_
  refine xi_iconst (v := 1) dX2_noteGoingBack_5 rfl ?_
  refine xe_iadd dX2_noteGoingBack_6 (v := nI (e.1 + 1)) (nI_add e.1 1) ?_
  refine xi_put dX2_noteGoingBack_7 fpX2_18 cc17 rfl ?_
  refine xi_aload_n dX2_noteGoingBack_10 rfl ?_
  refine xi_dup dX2_noteGoingBack_11 rfl ?_
  refine xe_getI (v := nI e.2.1) dX2_noteGoingBack_12 fgX2_22 cc17 rfl ((xf_k (by decide)).trans hE.2.1) ?_
  refine xi_iload_n dX2_noteGoingBack_15 rfl ?_
  refine xi_iload_n dX2_noteGoingBack_16 rfl ?_
  refine xat 17 rfl ?_
  refine xe_isub dX2_noteGoingBack_17 (v := nI (now - fr)) (pk_sub (by omega)) ?_
  refine xe_iadd dX2_noteGoingBack_18 (v := nI (e.2.1 + (now - fr))) (nI_add e.2.1 (now - fr)) ?_
  refine xi_put dX2_noteGoingBack_19 fpX2_22 cc17 rfl ?_
  refine xi_aload_n dX2_noteGoingBack_22 rfl ?_
  refine xi_aload_n dX2_noteGoingBack_23 rfl ?_
  refine xe_getI (v := nI e.2.2.1) dX2_noteGoingBack_24 fgX2_25 cc17 rfl ((xf_k (by decide)).trans ((xf_k (by decide)).trans hE.2.2.1)) ?_
  refine xi_iload_n dX2_noteGoingBack_27 rfl ?_
  refine xi_iload_n dX2_noteGoingBack_28 rfl ?_
  refine xe_isub dX2_noteGoingBack_29 (v := nI (now - fr)) (pk_sub (by omega)) ?_
  refine xi_callS [.int (nI e.2.2.1), .int (nI (now - fr))] [.ref 17] dX2_noteGoingBack_30 zJ9_max_7cf53 mlX2_37 rfl rfl rfl (Nat.le_of_ble_eq_true rfl) (Nat.le_of_ble_eq_true rfl) ⟨by decide, by decide⟩ ?_
  refine k_max (a := e.2.2.1) (b := now - fr) (by omega) (by omega) ?_
  show WP _ _ 33 _ [.int (nI (max e.2.2.1 (now - fr))), .ref 17] _ _
  refine xi_put dX2_noteGoingBack_33 fpX2_25 cc17 rfl ?_
  refine xi_iload_n dX2_noteGoingBack_36 rfl ?_
  refine xi_istore (lv' := [some (.ref 17), some (.ref 13), some (.int (nI fr)), some (.int (nI now)), some (.int (nI fr)), none, none]) dX2_noteGoingBack_37 (by decide) rfl ?_
  generalize eM1 : (xf (xf (xf M 17 0 (nI (e.1 + 1))) 17 1 (nI (e.2.1 + (now - fr)))) 17 2 (nI (max e.2.2.1 (now - fr)))) = M1
  have F1 : FE M M1 := by rw [← eM1]; exact ⟨fun a ha => by rw [xf_o ha, xf_o ha, xf_o ha], rfl, fun _ _ => rfl⟩
  have hE1 : KE (e.1 + 1, e.2.1 + (now - fr), max e.2.2.1 (now - fr), e.2.2.2.1, e.2.2.2.2) M1 := by rw [← eM1]; exact ⟨by rw [xf_k (by decide), xf_k (by decide), xf_s], by rw [xf_k (by decide), xf_s], xf_s, by rw [xf_k (by decide), xf_k (by decide), xf_k (by decide)]; exact hE.2.2.2.1, hE.2.2.2.2⟩
  refine eo_gb hn hf8 hB hH (now - fr) fr M1 _ (by omega) (Nat.le_refl _) (hL.keep (F1.2.2 14 (by decide)) (F1.2.2 15 (by decide)) (F1.2.2 16 (by decide))) (by rw [F1.2.2 19 (by decide)]; exact hI) hE1 (by show e.2.2.2.1 + 4 * (now - fr) ≤ B; omega) (fun M2 F2 z => h M2 (F1.tr F2) z)

