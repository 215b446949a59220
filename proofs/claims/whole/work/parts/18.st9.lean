theorem xa_s {M : xM} {a : Nat} {f : Nat → Int32} : (xa M a f).2.1 a = f := if_pos rfl
theorem xa_n {M : xM} {a b : Nat} {f : Nat → Int32} (h : b ≠ a) : (xa M a f).2.1 b = M.2.1 b := if_neg h
theorem mem_15 {n : Nat} (h : n < 2 ^ 32) : nI n &&& 15 = nI (n % 16) := pk_andN h 4 (by decide)
theorem mem_3 {n : Nat} (h : n < 2 ^ 32) : nI n &&& 3 = nI (n % 4) := pk_andN h 2 (by decide)
theorem shr_4 {n : Nat} (h : n < 2 ^ 31) : nI n >>> ((4 : Int32) &&& 31) = nI (n / 16) := pk_shrN h _ 4 (by decide)
theorem shr_6 {n : Nat} (h : n < 2 ^ 31) : nI n >>> ((6 : Int32) &&& 31) = nI (n / 64) := pk_shrN h _ 6 (by decide)
theorem by8 : ∀ n, n < 17 → (nI n).toInt8.toInt32 = nI n ∧ vp_nar .byte (nI n) = nI n := by decide +kernel
/-- the log: acts, hits, marks; by 4 t + p -/
def CLg (A H : Nat → Nat) (L : Nat → Bool) (M : xM) : Prop := (∀ i, i < 2000 → M.2.1 14 i = nI (A i)) ∧ (∀ i, i < 2000 → M.2.1 15 i = nI (H i)) ∧ (∀ i, i < 2000 → M.2.1 16 i = xb (L i)) ∧ (∀ i, A i ≤ 4096) ∧ (∀ i, H i ≤ 16)
theorem clA {A H : Nat → Nat} {L : Nat → Bool} {M : xM} (h : CLg A H L M) {i : Nat} (hi : i < 2000) : M.2.1 14 i = nI (A i) := h.1 i hi
theorem clH {A H : Nat → Nat} {L : Nat → Bool} {M : xM} (h : CLg A H L M) {i : Nat} (hi : i < 2000) : M.2.1 15 i = nI (H i) := h.2.1 i hi
theorem clL {A H : Nat → Nat} {L : Nat → Bool} {M : xM} (h : CLg A H L M) {i : Nat} (hi : i < 2000) : M.2.1 16 i = xb (L i) := h.2.2.1 i hi
theorem clAb {A H : Nat → Nat} {L : Nat → Bool} {M : xM} (h : CLg A H L M) (i : Nat) : A i ≤ 4096 := h.2.2.2.1 i
theorem clHb {A H : Nat → Nat} {L : Nat → Bool} {M : xM} (h : CLg A H L M) (i : Nat) : H i ≤ 16 := h.2.2.2.2 i
theorem CLg.keep {A H : Nat → Nat} {L : Nat → Bool} {M M2 : xM} (h : CLg A H L M) (h1 : M2.2.1 14 = M.2.1 14) (h2 : M2.2.1 15 = M.2.1 15) (h3 : M2.2.1 16 = M.2.1 16) : CLg A H L M2 := ⟨by rw [h1]; exact h.1, by rw [h2]; exact h.2.1, by rw [h3]; exact h.2.2.1, h.2.2.2⟩
theorem CLg.fr {A H : Nat → Nat} {L : Nat → Bool} {M M2 : xM} {r : Nat} (h : CLg A H L M) (hr : isSt r) (f : Fr r M M2) : CLg A H L M2 := h.keep (f.2.2 _ (by have := hr.ge; omega)) (f.2.2 _ (by have := hr.ge; omega)) (f.2.2 _ (by have := hr.ge; omega))
theorem CLg.hit {A H : Nat → Nat} {L : Nat → Bool} {M : xM} (h : CLg A H L M) (j v : Nat) (hv : v ≤ 16) : CLg A (va_up H j v) L (xa M 15 (upd (M.2.1 15) j (nI v))) := by
  refine ⟨fun i hi => ?_, fun i hi => ?_, fun i hi => ?_, h.2.2.2.1, fun i => ?_⟩
  · have e14 : (xa M 15 (upd (M.2.1 15) j (nI v))).2.1 14 = M.2.1 14 := xa_n (by omega)
    rw [e14]; exact h.1 i hi
  · have e15 : (xa M 15 (upd (M.2.1 15) j (nI v))).2.1 15 = upd (M.2.1 15) j (nI v) := xa_s
    rw [e15]
    by_cases e : i = j
    · subst e; rw [upd, if_pos rfl, up_s]
    · rw [upd, if_neg e, up_n e]; exact h.2.1 i hi
  · have e16 : (xa M 15 (upd (M.2.1 15) j (nI v))).2.1 16 = M.2.1 16 := xa_n (by omega)
    rw [e16]; exact h.2.2.1 i hi
  · by_cases e : i = j
    · subst e; rw [up_s]; exact hv
    · rw [up_n e]; exact h.2.2.2.2 i
/-- changed in the rows of a state and in the hits alone -/
def FL (r : Nat) (M M2 : xM) : Prop := M2.1 = M.1 ∧ M2.2.2 = M.2.2 ∧ ∀ a, ¬ a = 15 → (a < r + 1 ∨ r + 9 < a) → M2.2.1 a = M.2.1 a
theorem FL.rf {r : Nat} {M : xM} : FL r M M := ⟨rfl, rfl, fun _ _ _ => rfl⟩
theorem FL.tr {r : Nat} {M M1 M2 : xM} (h : FL r M M1) (h2 : FL r M1 M2) : FL r M M2 := ⟨h2.1.trans h.1, h2.2.1.trans h.2.1, fun a ha hb => (h2.2.2 a ha hb).trans (h.2.2 a ha hb)⟩
theorem Fr.fl {r : Nat} {M M2 : xM} (h : Fr r M M2) : FL r M M2 := ⟨h.1, h.2.1, fun a _ hb => h.2.2 a hb⟩
theorem FL.hit {r : Nat} {M : xM} {f : Nat → Int32} : FL r M (xa M 15 f) := ⟨rfl, rfl, fun a ha _ => up_n ha⟩
theorem CG.fl {G : xG} {M M2 : xM} {r : Nat} (h : CG G M) (hr : isSt r) (f : FL r M M2) : CG G M2 := h.keep (by rw [f.1]) (fun a ha => f.2.2 a (by omega) (by have := hr.ge; omega))
theorem CS.hit {G : xG} {S : xS} {M : xM} {r : Nat} {f : Nat → Int32} (h : CS G S M r) (hr : isSt r) : CS G S (xa M 15 f) r := by
  have hg := hr.ge
  have hk : ∀ k, (xa M 15 f).2.1 (r + k) = M.2.1 (r + k) := fun k => up_n (by omega)
  refine ⟨?_, ?_, ?_, ?_, ?_, ?_, ?_, ?_, ?_⟩ <;> (intro n hn; rw [hk])
  · exact csC h hn
  · exact csL h hn
  · exact csB h hn
  · exact csF h hn
  · exact csR h hn
  · exact csH h hn
  · exact csP h hn
  · exact csK h hn
  · exact csO h hn
theorem mhit_le {o : Option Nat} {m : Nat} (h : ∀ n, o = some n → n < m) : mhit o ≤ m := by
  cases o with
  | none => exact Nat.zero_le _
  | some n => exact h n rfl
theorem mact_hit {G : xG} {S : xS} {p c : Nat} (hW : wG G) (hw : wS G S) (hp : p < gP G) : (mact G S p c).1 ≤ 16 := by
  have b8 : gT G ≤ 16 := hW.2.2.2.2.2.2.2.1
  have hq := mpos_P hW hw hp
  unfold mact
  split <;> try exact Nat.zero_le _
  · refine Nat.le_trans (mhit_le (m := gT G) (fun n h => ?_)) b8
    unfold mshoot at h
    split at h
    · cases e : mline G (uR (uF S p (nI (c / 16 % 4))) p 3) (c / 16 % 4) 7 (mnext G (mpos S p) (c / 16 % 4)) with
      | none => rw [e] at h; cases h
      | some m => rw [e] at h; cases h; exact mline_lt _ _ _ e
    · cases h
  · refine Nat.le_trans (mhit_le (m := gT G) (fun n h => ?_)) b8
    by_cases q : mcar G S p 5 = true
    · rw [mhurl_eq q] at h
      exact (mfly_lt hW 4 (mpos S p) _ hq.2 (fun j z => mnext_lt hW hq.2 z)).2 n h
    · unfold mhurl at h
      rw [if_neg q] at h
      cases h
/-- one body's act of a tick; all of them, in turn -/
def mbS (G : xG) (A : Nat → Nat) (t i : Nat) (q : xS × (Nat → Nat)) : xS × (Nat → Nat) :=
  ((mact G q.1 ((t + i) % gP G) (if 0 < sL q.1 ((t + i) % gP G) then A (t * 4 + (t + i) % gP G) else 4096)).2, va_up q.2 (t * 4 + (t + i) % gP G) (mact G q.1 ((t + i) % gP G) (if 0 < sL q.1 ((t + i) % gP G) then A (t * 4 + (t + i) % gP G) else 4096)).1)
def mbL (G : xG) (A : Nat → Nat) (t : Nat) : Nat → Nat → xS × (Nat → Nat) → xS × (Nat → Nat)
  | _, 0, q => q
  | i, f + 1, q => mbL G A t (i + 1) f (mbS G A t i q)
def mbodies (G : xG) (A : Nat → Nat) (t : Nat) (S : xS) (H : Nat → Nat) : xS × (Nat → Nat) := mbL G A t 0 (gP G) (S, H)
theorem wS_act {G : xG} {S : xS} {p c : Nat} (hW : wG G) (hw : wS G S) (hp : p < gP G) : wS G (mact G S p c).2 := by
  have b7 : gP G ≤ gT G := hW.2.2.2.2.2.2.1
  have hq := mpos_P hW hw hp
  unfold mact
  split
  · exact wS_enter (wS_uF hw) (by omega) (fun k h => mnext_lt hW hq.2 h)
  · exact wS_shoot hW hw hp
  · exact wS_try hw
  · exact wS_pk hw
  · exact wS_let hw hp
  · exact wS_hurl hW hw hp
  · exact hw
set_option maxHeartbeats 4000000 in
set_option maxRecDepth 100000 in
theorem k_kind {sh : List xSh} {M : xM} {Q : Option Value → xM → Prop} {c : Nat} (hc : c ≤ 4096) (h : Q (some (.int (nI (c % 16)))) M) : WP sh mX0_kindOf 0 [some (.int (nI c))] [] M Q := by
  refine xi_iload_n dX0_kindOf_0 rfl ?_
  refine xi_bipush (v := 15) dX0_kindOf_1 (by decide) ?_
  refine xe_iand dX0_kindOf_3 (v := nI (c % 16)) (mem_15 (by omega)) ?_
  refine xi_iret (v := nI (c % 16)) dX0_kindOf_4 rfl ?_
  exact h

set_option maxHeartbeats 4000000 in
set_option maxRecDepth 100000 in
theorem k_dir {sh : List xSh} {M : xM} {Q : Option Value → xM → Prop} {c : Nat} (hc : c ≤ 4096) (h : Q (some (.int (nI (c / 16 % 4)))) M) : WP sh mX0_directionOf 0 [some (.int (nI c))] [] M Q := by
  refine xi_iload_n dX0_directionOf_0 rfl ?_
  refine xi_iconst (v := 4) dX0_directionOf_1 rfl ?_
  refine xe_ishr dX0_directionOf_2 (v := nI (c / 16)) (shr_4 (by omega)) ?_
  refine xi_iconst (v := 3) dX0_directionOf_3 rfl ?_
  refine xe_iand dX0_directionOf_4 (v := nI (c / 16 % 4)) (mem_3 (by omega)) ?_
  refine xi_iret (v := nI (c / 16 % 4)) dX0_directionOf_5 rfl ?_
  exact h

set_option maxHeartbeats 4000000 in
set_option maxRecDepth 100000 in
theorem k_word {sh : List xSh} {M : xM} {Q : Option Value → xM → Prop} {c : Nat} (hc : c ≤ 4096) (h : Q (some (.int (nI (c / 64 % 16)))) M) : WP sh mX0_wordOf 0 [some (.int (nI c))] [] M Q := by
  refine xi_iload_n dX0_wordOf_0 rfl ?_
  refine xi_bipush (v := 6) dX0_wordOf_1 (by decide) ?_
  refine xe_ishr dX0_wordOf_3 (v := nI (c / 64)) (shr_6 (by omega)) ?_
  refine xi_bipush (v := 15) dX0_wordOf_4 (by decide) ?_
  refine xe_iand dX0_wordOf_6 (v := nI (c / 64 % 16)) (mem_15 (by omega)) ?_
  refine xi_iret (v := nI (c / 64 % 16)) dX0_wordOf_7 rfl ?_
  exact h

set_option maxHeartbeats 4000000 in
set_option maxRecDepth 100000 in
theorem g_code {A H : Nat → Nat} {L : Nat → Bool} {M : xM} {Q : Option Value → xM → Prop} (hL : CLg A H L M) {t p : Nat} (ht : t < 500) (hp : p < 4)  (h : Q (some (.int (nI (A (t * 4 + p))))) M) : WP shC mX3_codeOf 0 [some (.ref 13), some (.int (nI t)), some (.int (nI p))] [] M Q := by
  refine xi_aload_n dX3_codeOf_0 rfl ?_
  refine xi_getR dX3_codeOf_1 fgX3_9 cc13 rfl ?_
  refine xi_iload_n dX3_codeOf_4 rfl ?_
  refine xi_iconst (v := 4) dX3_codeOf_5 rfl ?_
  refine xe_imul dX3_codeOf_6 (v := nI (t * 4)) (pk_mul t 4) ?_
  refine xi_iload_n dX3_codeOf_7 rfl ?_
  refine xe_iadd dX3_codeOf_8 (v := nI (t * 4 + p)) (nI_add (t * 4) p) ?_
  have q1 := clAb hL (t * 4 + p)
  refine xe_iald (v := nI (A (t * 4 + p))) (t * 4 + p) dX3_codeOf_9 cc14 (by decide) rfl (by omega) (clA hL (by omega)) ?_
  refine xi_iret (v := nI (A (t * 4 + p))) dX3_codeOf_10 rfl ?_
  exact h

set_option maxHeartbeats 4000000 in
set_option maxRecDepth 100000 in
theorem g_hit {A H : Nat → Nat} {L : Nat → Bool} {M : xM} {Q : Option Value → xM → Prop} (hL : CLg A H L M) {t p : Nat} (ht : t < 500) (hp : p < 4)  (h : Q (some (.int (nI (H (t * 4 + p))))) M) : WP shC mX3_hitOf 0 [some (.ref 13), some (.int (nI t)), some (.int (nI p))] [] M Q := by
  refine xi_aload_n dX3_hitOf_0 rfl ?_
  refine xi_getR dX3_hitOf_1 fgX3_15 cc13 rfl ?_
  refine xi_iload_n dX3_hitOf_4 rfl ?_
  refine xi_iconst (v := 4) dX3_hitOf_5 rfl ?_
  refine xe_imul dX3_hitOf_6 (v := nI (t * 4)) (pk_mul t 4) ?_
  refine xi_iload_n dX3_hitOf_7 rfl ?_
  refine xe_iadd dX3_hitOf_8 (v := nI (t * 4 + p)) (nI_add (t * 4) p) ?_
  have q1 := clHb hL (t * 4 + p)
  refine xe_bald (v := nI (H (t * 4 + p))) (t * 4 + p) dX3_hitOf_9 cc15 (by decide) rfl (by omega) (clH hL (by omega)) ?_
  refine xi_iret (v := nI (H (t * 4 + p))) dX3_hitOf_10 rfl ?_
  exact h

set_option maxHeartbeats 4000000 in
set_option maxRecDepth 100000 in
theorem g_late {A H : Nat → Nat} {L : Nat → Bool} {M : xM} {Q : Option Value → xM → Prop} (hL : CLg A H L M) {t p : Nat} (ht : t < 500) (hp : p < 4)  (h : Q (some (.int (xb (L (t * 4 + p))))) M) : WP shC mX3_isLate 0 [some (.ref 13), some (.int (nI t)), some (.int (nI p))] [] M Q := by
  refine xi_aload_n dX3_isLate_0 rfl ?_
  refine xi_getR dX3_isLate_1 fgX3_19 cc13 rfl ?_
  refine xi_iload_n dX3_isLate_4 rfl ?_
  refine xi_iconst (v := 4) dX3_isLate_5 rfl ?_
  refine xe_imul dX3_isLate_6 (v := nI (t * 4)) (pk_mul t 4) ?_
  refine xi_iload_n dX3_isLate_7 rfl ?_
  refine xe_iadd dX3_isLate_8 (v := nI (t * 4 + p)) (nI_add (t * 4) p) ?_
  refine xe_bald (v := xb (L (t * 4 + p))) (t * 4 + p) dX3_isLate_9 cc16 (by decide) rfl (by omega) (clL hL (by omega)) ?_
  refine xb_if_eq (L (t * 4 + p)) 17 dX3_isLate_10 (by decide) rfl (fun h10 => ?_) (fun h10 => ?_)
  · skip
    refine xi_iconst (v := 0) dX3_isLate_17 rfl ?_
    refine xi_zret (v := 0) dX3_isLate_18 rfl (by decide) ?_
    rw [h10] at h
    exact h
  · skip
    refine xi_iconst (v := 1) dX3_isLate_13 rfl ?_
    refine xi_goto 18 dX3_isLate_14 (by decide) ?_
    refine xi_zret (v := 1) dX3_isLate_18 rfl (by decide) ?_
    rw [h10] at h
    exact h

set_option maxHeartbeats 4000000 in
set_option maxRecDepth 100000 in
theorem g_noteHit {A H : Nat → Nat} {L : Nat → Bool} {M : xM} {Q : Option Value → xM → Prop} (hL : CLg A H L M) {t p : Nat} (ht : t < 500) (hp : p < 4) {v : Nat} (hv : v ≤ 16) (h : Q none (xa M 15 (upd (M.2.1 15) (t * 4 + p) (nI v)))) : WP shC mX3_noteHit 0 [some (.ref 13), some (.int (nI t)), some (.int (nI p)), some (.int (nI v))] [] M Q := by
  refine xi_aload_n dX3_noteHit_0 rfl ?_
  refine xi_getR dX3_noteHit_1 fgX3_15 cc13 rfl ?_
  refine xi_iload_n dX3_noteHit_4 rfl ?_
  refine xi_iconst (v := 4) dX3_noteHit_5 rfl ?_
  refine xe_imul dX3_noteHit_6 (v := nI (t * 4)) (pk_mul t 4) ?_
  refine xi_iload_n dX3_noteHit_7 rfl ?_
  refine xe_iadd dX3_noteHit_8 (v := nI (t * 4 + p)) (nI_add (t * 4) p) ?_
  refine xi_iload_n dX3_noteHit_9 rfl ?_
  refine xi_i2b dX3_noteHit_10 ?_
  refine xe_bast (v := nI v) (t * 4 + p) dX3_noteHit_11 cc15 (by decide) rfl (by omega) (by rw [(by8 v (by omega)).1]; exact (by8 v (by omega)).2) ?_
  refine xi_vret dX3_noteHit_12 rfl ?_
  exact h

set_option maxHeartbeats 4000000 in
set_option maxRecDepth 100000 in
theorem l_note {G : xG} {r : Nat} {A : Nat → Nat} {L : Nat → Bool} {Q : Option Value → xM → Prop} (hW : wG G) (hr : isSt r) {H : Nat → Nat} {M : xM} {t p v i : Nat} {c0 d0 : Int32} (ht : t < 500) (hp : p < gP G) (hv : v ≤ 16) (hL : CLg A H L M) (h : CLg A (va_up H (t * 4 + p) v) L (xa M 15 (upd (M.2.1 15) (t * 4 + p) (nI v))) → WP shC mX6_moveBodies 11 [some (.ref r), some (.int (nI t)), some (.ref 13), some (.int (nI (gP G))), some (.int (nI (i + 1))), none, none, none, none] [] (xa M 15 (upd (M.2.1 15) (t * 4 + p) (nI v))) Q) : WP shC mX6_moveBodies 205 [some (.ref r), some (.int (nI t)), some (.ref 13), some (.int (nI (gP G))), some (.int (nI i)), some (.int (nI p)), some (.int c0), some (.int d0), some (.int (nI v))] [] M Q := by
  obtain ⟨b1, b2, b3, b4, b5, b6, b7, b8, b9, wmap, wlink, wk0, wk1, b10, b11, wword⟩ := id hW
  refine xi_drop [true, true, true, true, true, true, false, false, true] rfl ?_
  refine xi_aload_n dX6_moveBodies_205 rfl ?_
  refine xi_iload_n dX6_moveBodies_206 rfl ?_
  refine xi_iload dX6_moveBodies_207 rfl ?_
  refine xi_iload dX6_moveBodies_209 rfl ?_
  refine xi_callV [.int (nI t), .int (nI p), .int (nI v)] [] dX6_moveBodies_211 zX3_noteHit mlX6_200 cc13 rfl rfl rfl rfl rfl (Nat.le_of_ble_eq_true rfl) (Nat.le_of_ble_eq_true rfl) ⟨by decide, by decide⟩ ?_
  refine g_noteHit hL (t := t) (p := p) (v := v) (by omega) (by omega) hv ?_
  have hN := hL.hit (t * 4 + p) v hv
  show WP _ _ 214 _ [] _ _
  refine xi_iinc (v := nI (i + 1)) (lv' := [some (.ref r), some (.int (nI t)), some (.ref 13), some (.int (nI (gP G))), some (.int (nI (i + 1))), some (.int (nI p)), none, none, some (.int (nI v))]) dX6_moveBodies_214 rfl (xinc i) (by decide) rfl ?_
  refine xi_goto 11 dX6_moveBodies_217 (by decide) ?_
  refine xi_drop [true, true, true, true, true, false, false, false, false] rfl ?_
  exact h hN

set_option maxHeartbeats 4000000 in
set_option maxRecDepth 100000 in
theorem l_body {G : xG} {r : Nat} {A : Nat → Nat} {L : Nat → Bool} {Q : Option Value → xM → Prop} (hW : wG G) (hr : isSt r) {S : xS} {H : Nat → Nat} {M : xM} {t p c i : Nat} (hG : CG G M) (hS : CS G S M r) (hw : wS G S) (ht : t < 500) (hp : p < gP G) (hc : c ≤ 4096) (hL : CLg A H L M) (h : ∀ M2, FL r M M2 → CS G (mact G S p c).2 M2 r → CLg A (va_up H (t * 4 + p) (mact G S p c).1) L M2 → WP shC mX6_moveBodies 11 [some (.ref r), some (.int (nI t)), some (.ref 13), some (.int (nI (gP G))), some (.int (nI (i + 1))), none, none, none, none] [] M2 Q) : WP shC mX6_moveBodies 48 [some (.ref r), some (.int (nI t)), some (.ref 13), some (.int (nI (gP G))), some (.int (nI i)), some (.int (nI p)), none, none, none] [.int (nI c)] M Q := by
  obtain ⟨b1, b2, b3, b4, b5, b6, b7, b8, b9, wmap, wlink, wk0, wk1, b10, b11, wword⟩ := id hW
  have hmp := mpos_P hW hw hp
  refine xi_istore (lv' := [some (.ref r), some (.int (nI t)), some (.ref 13), some (.int (nI (gP G))), some (.int (nI i)), some (.int (nI p)), some (.int (nI c)), none, none]) dX6_moveBodies_48 (by decide) rfl ?_
  refine xi_iload dX6_moveBodies_50 rfl ?_
  refine xi_callS [.int (nI c)] [] dX6_moveBodies_52 zX0_directionOf mlX6_143 rfl rfl rfl (Nat.le_of_ble_eq_true rfl) (Nat.le_of_ble_eq_true rfl) ⟨by decide, by decide⟩ ?_
  refine k_dir (c := c) (by omega) ?_
  show WP _ _ 55 _ [.int (nI (c / 16 % 4))] _ _
  refine xi_istore (lv' := [some (.ref r), some (.int (nI t)), some (.ref 13), some (.int (nI (gP G))), some (.int (nI i)), some (.int (nI p)), some (.int (nI c)), some (.int (nI (c / 16 % 4))), none]) dX6_moveBodies_55 (by decide) rfl ?_
  refine xi_iconst (v := 0) dX6_moveBodies_57 rfl ?_
  refine xi_istore (lv' := [some (.ref r), some (.int (nI t)), some (.ref 13), some (.int (nI (gP G))), some (.int (nI i)), some (.int (nI p)), some (.int (nI c)), some (.int (nI (c / 16 % 4))), some (.int 0)]) dX6_moveBodies_58 (by decide) rfl ?_
  refine xi_iload dX6_moveBodies_60 rfl ?_
  refine xi_callS [.int (nI c)] [] dX6_moveBodies_62 zX0_kindOf mlX6_138 rfl rfl rfl (Nat.le_of_ble_eq_true rfl) (Nat.le_of_ble_eq_true rfl) ⟨by decide, by decide⟩ ?_
  refine k_kind (c := c) (by omega) ?_
  show WP _ _ 65 _ [.int (nI (c % 16))] _ _
  by_cases h65_1 : c % 16 = 1
  · refine xi_tableIn 104 0 dX6_moveBodies_65 (by rw [nI_toInt (by omega), h65_1]; rfl) (by decide) rfl (by decide) ?_
    refine xi_aload_n dX6_moveBodies_104 rfl ?_
    refine xi_getR dX6_moveBodies_105 fgX6_21 (so hr) rfl ?_
    refine xi_iload dX6_moveBodies_108 rfl ?_
    refine xi_iload dX6_moveBodies_110 rfl ?_
    refine xe_iast p dX6_moveBodies_112 (sa4 hr) (by decide) rfl (by omega) ?_
    generalize eM1 : (xa M (r + 4) (upd (M.2.1 (r + 4)) p (nI (c / 16 % 4)))) = M1
    have hS1 : CS G (uF S p (nI (c / 16 % 4))) M1 r := by rw [← eM1]; exact csuF hS p (nI (c / 16 % 4))
    have hF1 : Fr r M M1 := by rw [← eM1]; exact Fr.xa (by decide) (by decide)
    have hG1 : CG G M1 := CG.fr hG hr hF1
    have hw1 : wS G (uF S p (nI (c / 16 % 4))) := (wS_uF hw)
    refine xi_aload_n dX6_moveBodies_113 rfl ?_
    refine xi_iload dX6_moveBodies_114 rfl ?_
    refine xi_aload_n dX6_moveBodies_116 rfl ?_
    refine xi_getR dX6_moveBodies_117 fgX6_39 (so hr) rfl ?_
    refine xi_aload_n dX6_moveBodies_120 rfl ?_
    refine xi_getR dX6_moveBodies_121 fgX6_9 (so hr) rfl ?_
    refine xat 124 rfl ?_
    refine xi_iload dX6_moveBodies_124 rfl ?_
    refine xe_iald (v := nI (mpos S p)) p dX6_moveBodies_126 (sa1 hr) (by decide) rfl (by omega) ((csC hS1 (by omega)).trans hmp.1) ?_
    refine xi_iload dX6_moveBodies_127 rfl ?_
    refine xi_callV [.int (nI (mpos S p)), .int (nI (c / 16 % 4))] [.int (nI p), .ref r] dX6_moveBodies_129 zX1_nextTo mlX6_146 cc1 rfl rfl rfl rfl rfl (Nat.le_of_ble_eq_true rfl) (Nat.le_of_ble_eq_true rfl) ⟨by decide, by decide⟩ ?_
    refine g_next hW hG1 (k := mpos S p) (d := c / 16 % 4) (by omega) (by omega) ?_
    show WP _ _ 132 _ [.int (xo (mnext G (mpos S p) (c / 16 % 4))), .int (nI p), .ref r] _ _
    generalize eo129 : mnext G (mpos S p) (c / 16 % 4) = o129
    refine xi_callV [.int (nI p), .int (xo o129)] [] dX6_moveBodies_132 zX6_enterIfFree mlX6_177 (so hr) rfl rfl rfl rfl rfl (Nat.le_of_ble_eq_true rfl) (Nat.le_of_ble_eq_true rfl) ⟨by decide, by decide⟩ ?_
    refine s_enter hW hG1 hr hS1 hw1 (n := p) (o := o129) (by omega) (fun j z => mnext_lt hW hmp.2 (eo129.trans z)) (fun M2 hF2 hS2 => ?_)
    have hG2 : CG G M2 := CG.fr hG1 hr hF2
    have hw2 : wS G (menter G (uF S p (nI (c / 16 % 4))) p o129) := wS_enter hw1 (by omega) (fun j z => mnext_lt hW hmp.2 (eo129.trans z))
    show WP _ _ 135 _ [] _ _
    refine xi_goto 205 dX6_moveBodies_135 (by decide) ?_
    have e : mact G S p c = (0, (menter G (uF S p (nI (c / 16 % 4))) p o129)) := by
      unfold mact
      rw [h65_1]
      rw [← eo129]
      rfl
    refine l_note hW hr (v := 0) ht hp (by omega) (hL.fr hr (hF1.tr hF2)) (fun hL9 => ?_)
    rw [e] at h
    exact h _ ((hF1.tr hF2).fl.tr FL.hit) (CS.hit hS2 hr) hL9
  by_cases h65_2 : c % 16 = 2
  · refine xi_tableIn 138 1 dX6_moveBodies_65 (by rw [nI_toInt (by omega), h65_2]; rfl) (by decide) rfl (by decide) ?_
    refine xi_aload_n dX6_moveBodies_138 rfl ?_
    refine xi_iload dX6_moveBodies_139 rfl ?_
    refine xi_iload dX6_moveBodies_141 rfl ?_
    refine xi_callV [.int (nI p), .int (nI (c / 16 % 4))] [] dX6_moveBodies_143 zX6_shoot mlX6_181 (so hr) rfl rfl rfl rfl rfl (Nat.le_of_ble_eq_true rfl) (Nat.le_of_ble_eq_true rfl) ⟨by decide, by decide⟩ ?_
    refine s_shoot hW hG hr hS hw (p := p) (d := c / 16 % 4) (by omega) (by omega) (fun M3 hF3 hS3 => ?_)
    have hG3 : CG G M3 := CG.fr hG hr hF3
    have hw3 : wS G ((mshoot G S p (c / 16 % 4)).2) := wS_shoot hW hw (by omega)
    show WP _ _ 146 _ [.int (nI (mhit (mshoot G S p (c / 16 % 4)).1))] _ _
    refine xi_istore (lv' := [some (.ref r), some (.int (nI t)), some (.ref 13), some (.int (nI (gP G))), some (.int (nI i)), some (.int (nI p)), some (.int (nI c)), some (.int (nI (c / 16 % 4))), some (.int (nI (mhit (mshoot G S p (c / 16 % 4)).1)))]) dX6_moveBodies_146 (by decide) rfl ?_
    refine xi_goto 205 dX6_moveBodies_148 (by decide) ?_
    have e : mact G S p c = (mhit (mshoot G S p (c / 16 % 4)).1, ((mshoot G S p (c / 16 % 4)).2)) := by
      unfold mact
      rw [h65_2]
      rfl
    refine l_note hW hr (v := mhit (mshoot G S p (c / 16 % 4)).1) ht hp (by have := mact_hit (c := c) hW hw hp; rw [e] at this; exact this) (hL.fr hr hF3) (fun hL9 => ?_)
    rw [e] at h
    exact h _ (hF3.fl.tr FL.hit) (CS.hit hS3 hr) hL9
  by_cases h65_3 : c % 16 = 3
  · refine xi_tableIn 151 2 dX6_moveBodies_65 (by rw [nI_toInt (by omega), h65_3]; rfl) (by decide) rfl (by decide) ?_
    refine xi_aload_n dX6_moveBodies_151 rfl ?_
    refine xi_iload dX6_moveBodies_152 rfl ?_
    refine xi_iload dX6_moveBodies_154 rfl ?_
    refine xi_iload dX6_moveBodies_156 rfl ?_
    refine xi_callS [.int (nI c)] [.int (nI (c / 16 % 4)), .int (nI p), .ref r] dX6_moveBodies_158 zX0_wordOf mlX6_184 rfl rfl rfl (Nat.le_of_ble_eq_true rfl) (Nat.le_of_ble_eq_true rfl) ⟨by decide, by decide⟩ ?_
    refine k_word (c := c) (by omega) ?_
    show WP _ _ 161 _ [.int (nI (c / 64 % 16)), .int (nI (c / 16 % 4)), .int (nI p), .ref r] _ _
    refine xi_callV [.int (nI p), .int (nI (c / 16 % 4)), .int (nI (c / 64 % 16))] [] dX6_moveBodies_161 zX6_tryWord mlX6_187 (so hr) rfl rfl rfl rfl rfl (Nat.le_of_ble_eq_true rfl) (Nat.le_of_ble_eq_true rfl) ⟨by decide, by decide⟩ ?_
    refine s_try hW hG hr hS hw (p := p) (d := c / 16 % 4) (w := c / 64 % 16) (by omega) (by omega) (by omega) (fun M4 hF4 hS4 => ?_)
    have hG4 : CG G M4 := CG.fr hG hr hF4
    have hw4 : wS G (mtry G S p (c / 16 % 4) (c / 64 % 16)) := wS_try hw
    show WP _ _ 164 _ [] _ _
    refine xi_goto 205 dX6_moveBodies_164 (by decide) ?_
    have e : mact G S p c = (0, (mtry G S p (c / 16 % 4) (c / 64 % 16))) := by
      unfold mact
      rw [h65_3]
      rfl
    refine l_note hW hr (v := 0) ht hp (by omega) (hL.fr hr hF4) (fun hL9 => ?_)
    rw [e] at h
    exact h _ (hF4.fl.tr FL.hit) (CS.hit hS4 hr) hL9
  by_cases h65_4 : c % 16 = 4
  · refine xi_tableIn 167 3 dX6_moveBodies_65 (by rw [nI_toInt (by omega), h65_4]; rfl) (by decide) rfl (by decide) ?_
    refine xi_aload_n dX6_moveBodies_167 rfl ?_
    refine xi_iload dX6_moveBodies_168 rfl ?_
    refine xi_callV [.int (nI p)] [] dX6_moveBodies_170 zX6_pickUp mlX6_190 (so hr) rfl rfl rfl rfl rfl (Nat.le_of_ble_eq_true rfl) (Nat.le_of_ble_eq_true rfl) ⟨by decide, by decide⟩ ?_
    refine s_pick hW hG hr hS hw (p := p) (by omega) (fun M5 hF5 hS5 => ?_)
    have hG5 : CG G M5 := CG.fr hG hr hF5
    have hw5 : wS G (mpk G S p) := wS_pk hw
    show WP _ _ 173 _ [] _ _
    refine xi_goto 205 dX6_moveBodies_173 (by decide) ?_
    have e : mact G S p c = (0, (mpk G S p)) := by
      unfold mact
      rw [h65_4]
      rfl
    refine l_note hW hr (v := 0) ht hp (by omega) (hL.fr hr hF5) (fun hL9 => ?_)
    rw [e] at h
    exact h _ (hF5.fl.tr FL.hit) (CS.hit hS5 hr) hL9
  by_cases h65_5 : c % 16 = 5
  · refine xi_tableIn 176 4 dX6_moveBodies_65 (by rw [nI_toInt (by omega), h65_5]; rfl) (by decide) rfl (by decide) ?_
    refine xi_aload_n dX6_moveBodies_176 rfl ?_
    refine xi_iload dX6_moveBodies_177 rfl ?_
    refine xi_aload_n dX6_moveBodies_179 rfl ?_
    refine xi_getR dX6_moveBodies_180 fgX6_9 (so hr) rfl ?_
    refine xi_iload dX6_moveBodies_183 rfl ?_
    refine xe_iald (v := sC S p) p dX6_moveBodies_185 (sa1 hr) (by decide) rfl (by omega) (csC hS (by omega)) ?_
    refine xi_callV [.int (nI p), .int (sC S p)] [] dX6_moveBodies_186 zX6_letGo mlX6_194 (so hr) rfl rfl rfl rfl rfl (Nat.le_of_ble_eq_true rfl) (Nat.le_of_ble_eq_true rfl) ⟨by decide, by decide⟩ ?_
    refine s_let hW hG hr hS hw (p := p) (c := sC S p) (by omega) (fun M7 hF7 hS7 => ?_)
    have hG7 : CG G M7 := CG.fr hG hr hF7
    have hw7 : wS G (mlet S p (sC S p)) := wS_let hw (by omega)
    show WP _ _ 189 _ [] _ _
    refine xi_goto 205 dX6_moveBodies_189 (by decide) ?_
    have e : mact G S p c = (0, (mlet S p (sC S p))) := by
      unfold mact
      rw [h65_5]
      rfl
    refine l_note hW hr (v := 0) ht hp (by omega) (hL.fr hr hF7) (fun hL9 => ?_)
    rw [e] at h
    exact h _ (hF7.fl.tr FL.hit) (CS.hit hS7 hr) hL9
  by_cases h65_6 : c % 16 = 6
  · refine xi_tableIn 192 5 dX6_moveBodies_65 (by rw [nI_toInt (by omega), h65_6]; rfl) (by decide) rfl (by decide) ?_
    refine xi_aload_n dX6_moveBodies_192 rfl ?_
    refine xi_iload dX6_moveBodies_193 rfl ?_
    refine xi_iload dX6_moveBodies_195 rfl ?_
    refine xi_callV [.int (nI p), .int (nI (c / 16 % 4))] [] dX6_moveBodies_197 zX6_hurl mlX6_197 (so hr) rfl rfl rfl rfl rfl (Nat.le_of_ble_eq_true rfl) (Nat.le_of_ble_eq_true rfl) ⟨by decide, by decide⟩ ?_
    refine s_hurl hW hG hr hS hw (p := p) (d := c / 16 % 4) (by omega) (by omega) (fun M8 hF8 hS8 => ?_)
    have hG8 : CG G M8 := CG.fr hG hr hF8
    have hw8 : wS G ((mhurl G S p (c / 16 % 4)).2) := wS_hurl hW hw (by omega)
    show WP _ _ 200 _ [.int (nI (mhit (mhurl G S p (c / 16 % 4)).1))] _ _
    refine xi_istore (lv' := [some (.ref r), some (.int (nI t)), some (.ref 13), some (.int (nI (gP G))), some (.int (nI i)), some (.int (nI p)), some (.int (nI c)), some (.int (nI (c / 16 % 4))), some (.int (nI (mhit (mhurl G S p (c / 16 % 4)).1)))]) dX6_moveBodies_200 (by decide) rfl ?_
    refine xi_goto 205 dX6_moveBodies_202 (by decide) ?_
    have e : mact G S p c = (mhit (mhurl G S p (c / 16 % 4)).1, ((mhurl G S p (c / 16 % 4)).2)) := by
      unfold mact
      rw [h65_6]
      rfl
    refine l_note hW hr (v := mhit (mhurl G S p (c / 16 % 4)).1) ht hp (by have := mact_hit (c := c) hW hw hp; rw [e] at this; exact this) (hL.fr hr hF8) (fun hL9 => ?_)
    rw [e] at h
    exact h _ (hF8.fl.tr FL.hit) (CS.hit hS8 hr) hL9
  refine xi_tableOut 205 dX6_moveBodies_65 (by decide) (by rw [nI_toInt (by omega)]; omega) ?_
  have e : mact G S p c = (0, S) := by
    unfold mact
    split <;> first | rfl | (exfalso; omega)
  refine l_note hW hr (v := 0) ht hp (by omega) (hL.fr hr Fr.rf) (fun hL9 => ?_)
  rw [e] at h
  exact h _ (Fr.rf.fl.tr FL.hit) (CS.hit hS hr) hL9

set_option maxHeartbeats 4000000 in
set_option maxRecDepth 100000 in
theorem l_bodies {G : xG} {r : Nat} {A : Nat → Nat} {L : Nat → Bool} {Q : Option Value → xM → Prop} (hW : wG G) (hr : isSt r) {t : Nat} (ht : t < 500) : ∀ (f i : Nat) (S : xS) (H : Nat → Nat) (M : xM), i + f = gP G → CG G M → CS G S M r → wS G S → CLg A H L M → (∀ M2, FL r M M2 → CS G (mbL G A t i f (S, H)).1 M2 r → CLg A (mbL G A t i f (S, H)).2 L M2 → Q none M2) → WP shC mX6_moveBodies 11 [some (.ref r), some (.int (nI t)), some (.ref 13), some (.int (nI (gP G))), some (.int (nI i)), none, none, none, none] [] M Q := by
  obtain ⟨b1, b2, b3, b4, b5, b6, b7, b8, b9, wmap, wlink, wk0, wk1, b10, b11, wword⟩ := id hW
  intro f
  induction f with
  | zero =>
    intro i S H M hf hG hS hw hL h
    refine xi_iload dX6_moveBodies_11 rfl ?_
    refine xi_iload_n dX6_moveBodies_13 rfl ?_
    refine xn_icmp_ge i (gP G) 220 dX6_moveBodies_14 (by decide) rfl rfl (by omega) (by omega) (fun h14 => ?_) (fun h14 => ?_)
    · skip
      refine xi_vret dX6_moveBodies_220 rfl ?_
      exact h M FL.rf hS hL
    · omega
  | succ f ih =>
    intro i S H M hf hG hS hw hL h
    refine xi_iload dX6_moveBodies_11 rfl ?_
    refine xi_iload_n dX6_moveBodies_13 rfl ?_
    refine xn_icmp_ge i (gP G) 220 dX6_moveBodies_14 (by decide) rfl rfl (by omega) (by omega) (fun h14 => ?_) (fun h14 => ?_)
    · omega
    · skip
      refine xi_iload_n dX6_moveBodies_17 rfl ?_
      refine xi_iload dX6_moveBodies_18 rfl ?_
      refine xe_iadd dX6_moveBodies_20 (v := nI (t + i)) (nI_add t i) ?_
      refine xi_iload_n dX6_moveBodies_21 rfl ?_
      refine xe_irem dX6_moveBodies_22 (nI_ne0 (by omega) (by omega)) (v := nI ((t + i) % gP G)) (pk_rem (by omega) (by omega) (by omega)) ?_
      have hp0 : (t + i) % gP G < gP G := Nat.mod_lt _ (by omega)
      generalize ep : (t + i) % gP G = p at hp0 ⊢
      refine xi_istore (lv' := [some (.ref r), some (.int (nI t)), some (.ref 13), some (.int (nI (gP G))), some (.int (nI i)), some (.int (nI p)), none, none, none]) dX6_moveBodies_23 (by decide) rfl ?_
      refine xi_aload_n dX6_moveBodies_25 rfl ?_
      refine xi_getR dX6_moveBodies_26 fgX6_15 (so hr) rfl ?_
      refine xi_iload dX6_moveBodies_29 rfl ?_
      have q1 := (hw).2.1 p (by omega)
      refine xe_iald (v := nI (sL S p)) p dX6_moveBodies_31 (sa2 hr) (by decide) rfl (by omega) (csL hS (by omega)) ?_
      refine xn_if_le (sL S p) 45 dX6_moveBodies_32 (by decide) rfl (by omega) (fun h32 => ?_) (fun h32 => ?_)
      · skip
        refine xi_sipush (v := 4096) dX6_moveBodies_45 (by decide) ?_
        have ec : (if 0 < sL S p then A (t * 4 + p) else 4096) = 4096 := by rw [if_neg (by omega)]
        refine l_body hW hr (c := 4096) hG hS hw ht hp0 (by omega) hL (fun M9 hF9 hS9 hL9 => ?_)
        have e : mbL G A t i (f + 1) (S, H) = mbL G A t (i + 1) f ((mact G S p (4096)).2, va_up H (t * 4 + p) (mact G S p (4096)).1) := by rw [mbL, mbS, ep, ec]
        refine ih (i + 1) _ _ M9 (by omega) (hG.fl hr hF9) hS9 (wS_act hW hw hp0) hL9 (fun M8 hF8 hS8 hL8 => h M8 (hF9.tr hF8) (by rw [e]; exact hS8) (by rw [e]; exact hL8))
      · skip
        refine xi_aload_n dX6_moveBodies_35 rfl ?_
        refine xi_iload_n dX6_moveBodies_36 rfl ?_
        refine xi_iload dX6_moveBodies_37 rfl ?_
        refine xi_callV [.int (nI t), .int (nI p)] [] dX6_moveBodies_39 zX3_codeOf mlX6_172 cc13 rfl rfl rfl rfl rfl (Nat.le_of_ble_eq_true rfl) (Nat.le_of_ble_eq_true rfl) ⟨by decide, by decide⟩ ?_
        refine g_code hL (t := t) (p := p) (by omega) (by omega) ?_
        show WP _ _ 42 _ [.int (nI (A (t * 4 + p)))] _ _
        refine xi_goto 48 dX6_moveBodies_42 (by decide) ?_
        have ec : (if 0 < sL S p then A (t * 4 + p) else 4096) = A (t * 4 + p) := by rw [if_pos h32]
        refine l_body hW hr (c := A (t * 4 + p)) hG hS hw ht hp0 (clAb hL _) hL (fun M9 hF9 hS9 hL9 => ?_)
        have e : mbL G A t i (f + 1) (S, H) = mbL G A t (i + 1) f ((mact G S p (A (t * 4 + p))).2, va_up H (t * 4 + p) (mact G S p (A (t * 4 + p))).1) := by rw [mbL, mbS, ep, ec]
        refine ih (i + 1) _ _ M9 (by omega) (hG.fl hr hF9) hS9 (wS_act hW hw hp0) hL9 (fun M8 hF8 hS8 hL8 => h M8 (hF9.tr hF8) (by rw [e]; exact hS8) (by rw [e]; exact hL8))

set_option maxHeartbeats 4000000 in
set_option maxRecDepth 100000 in
theorem s_bodies {G : xG} {r : Nat} {A : Nat → Nat} {L : Nat → Bool} {Q : Option Value → xM → Prop} (hW : wG G) (hr : isSt r) {S : xS} {H : Nat → Nat} {M : xM} {t : Nat} (hG : CG G M) (hS : CS G S M r) (hw : wS G S) (ht : t < 500) (hL : CLg A H L M) (h : ∀ M2, FL r M M2 → CS G (mbodies G A t S H).1 M2 r → CLg A (mbodies G A t S H).2 L M2 → Q none M2) : WP shC mX6_moveBodies 0 [some (.ref r), some (.int (nI t)), some (.ref 13), none, none, none, none, none, none] [] M Q := by
  obtain ⟨b1, b2, b3, b4, b5, b6, b7, b8, b9, wmap, wlink, wk0, wk1, b10, b11, wword⟩ := id hW
  refine xi_aload_n dX6_moveBodies_0 rfl ?_
  refine xi_getR dX6_moveBodies_1 fgX6_39 (so hr) rfl ?_
  refine xe_getI (v := nI (gP G)) dX6_moveBodies_4 fgX6_49 cc1 rfl (cg_P hG) ?_
  refine xi_istore_n (lv' := [some (.ref r), some (.int (nI t)), some (.ref 13), some (.int (nI (gP G))), none, none, none, none, none]) dX6_moveBodies_7 (by decide) rfl ?_
  refine xi_iconst (v := 0) dX6_moveBodies_8 rfl ?_
  refine xi_istore (lv' := [some (.ref r), some (.int (nI t)), some (.ref 13), some (.int (nI (gP G))), some (.int 0), none, none, none, none]) dX6_moveBodies_9 (by decide) rfl ?_
  exact l_bodies hW hr ht (gP G) 0 S H M (by omega) hG hS hw hL h

