theorem CR.sub {G : xG} {Z : Nat → xS} {M : xM} {lo hi lo2 hi2 : Nat} (h : CR G Z M lo hi) (h1 : lo ≤ lo2) (h2 : hi2 ≤ hi) : CR G Z M lo2 hi2 := fun t a b => h t (by omega) (by omega)
set_option maxHeartbeats 4000000 in
set_option maxRecDepth 100000 in
theorem s_rs9 {G : xG} {S : xS} {M : xM} {q : Nat} {Q : Option Value → xM → Prop} (hW : wG G) (hrq : isSt q) (hS : CS G S M q) (h : ∀ M2, Fr 61 M M2 → CS G S M2 61 → Q none M2) : WP shC mX5_restart 0 [some (.ref 9), some (.ref q)] [] M Q := by
  refine xi_aload_n dX5_restart_0 rfl ?_
  refine xi_getR dX5_restart_1 fgX5_9 cc9 rfl ?_
  refine xi_iconst (v := 0) dX5_restart_4 rfl ?_
  refine xe_aald4 (j := 61) 0 dX5_restart_5 cc10 (by decide) rfl (by omega) rfl ?_
  refine xi_aload_n dX5_restart_6 rfl ?_
  refine xi_callV [.ref q] [] dX5_restart_7 zX6_copyFrom mlX5_18 (so (show isSt 61 from ⟨0, by omega, rfl⟩)) rfl rfl rfl rfl rfl (Nat.le_of_ble_eq_true rfl) (Nat.le_of_ble_eq_true rfl) ⟨by decide, by decide⟩ ?_
  refine s_copy hW (show isSt 61 from ⟨0, by omega, rfl⟩) hrq hS (fun M2 hF2 hS2 => ?_)
  show WP _ _ 10 _ [] _ _
  refine xi_vret dX5_restart_10 rfl ?_
  exact h M2 hF2 hS2

set_option maxHeartbeats 4000000 in
set_option maxRecDepth 100000 in
theorem s_rs11 {G : xG} {S : xS} {M : xM} {q : Nat} {Q : Option Value → xM → Prop} (hW : wG G) (hrq : isSt q) (hS : CS G S M q) (h : ∀ M2, Fr 221 M M2 → CS G S M2 221 → Q none M2) : WP shC mX5_restart 0 [some (.ref 11), some (.ref q)] [] M Q := by
  refine xi_aload_n dX5_restart_0 rfl ?_
  refine xi_getR dX5_restart_1 fgX5_9 cc11 rfl ?_
  refine xi_iconst (v := 0) dX5_restart_4 rfl ?_
  refine xe_aald4 (j := 221) 0 dX5_restart_5 cc12 (by decide) rfl (by omega) rfl ?_
  refine xi_aload_n dX5_restart_6 rfl ?_
  refine xi_callV [.ref q] [] dX5_restart_7 zX6_copyFrom mlX5_18 (so (show isSt 221 from isSt_lone)) rfl rfl rfl rfl rfl (Nat.le_of_ble_eq_true rfl) (Nat.le_of_ble_eq_true rfl) ⟨by decide, by decide⟩ ?_
  refine s_copy hW (show isSt 221 from isSt_lone) hrq hS (fun M2 hF2 hS2 => ?_)
  show WP _ _ 10 _ [] _ _
  refine xi_vret dX5_restart_10 rfl ?_
  exact h M2 hF2 hS2

set_option maxHeartbeats 4000000 in
set_option maxRecDepth 100000 in
theorem l_work9 {G : xG} {A : Nat → Nat} {L : Nat → Bool} {Z : Nat → xS} {Q : Option Value → xM → Prop} (hW : wG G) {lo : Nat} {fr to : Nat} (hto : to ≤ 500) : ∀ (f t : Nat) (M : xM) (H : Nat → Nat), t + f = to → lo ≤ t → CG G M → CR G Z M (max lo (t - 15)) t → wS G (Z t) → CLg A H L M → (∀ s, t ≤ s → s < to → Z (s + 1) = mtick G A s (Z s)) → (∀ M2, FK 62 220 M M2 → CR G Z M2 (max lo (to - 15)) to → CLg A (mwH G A Z t f H) L M2 → wS G (Z to) → Q none M2) → WP shC mX5_work 3 [some (.ref 9), some (.int (nI fr)), some (.int (nI to)), some (.ref 13), some (.int (nI t)), none] [] M Q := by
  obtain ⟨b1, b2, b3, b4, b5, b6, b7, b8, b9, wmap, wlink, wk0, wk1, b10, b11, wword⟩ := id hW
  intro f
  induction f with
  | zero =>
    intro t M H hf hlt hG hR hw hL hZ h
    obtain rfl : t = to := by omega
    refine xi_iload dX5_work_3 rfl ?_
    refine xi_iload_n dX5_work_5 rfl ?_
    refine xn_icmp_ge t t 54 dX5_work_6 (by decide) rfl rfl (by omega) (by omega) (fun h6 => ?_) (fun h6 => ?_)
    · skip
      refine xi_vret dX5_work_54 rfl ?_
      exact h M FK.rf hR hL hw
    · omega
  | succ f ih =>
    intro t M H hf hlt hG hR hw hL hZ h
    refine xi_iload dX5_work_3 rfl ?_
    refine xi_iload_n dX5_work_5 rfl ?_
    refine xn_icmp_ge t to 54 dX5_work_6 (by decide) rfl rfl (by omega) (by omega) (fun h6 => ?_) (fun h6 => ?_)
    · omega
    · skip
      refine xi_aload_n dX5_work_9 rfl ?_
      refine xi_iload dX5_work_10 rfl ?_
      refine xi_iconst (v := 1) dX5_work_12 rfl ?_
      refine xe_iadd dX5_work_13 (v := nI (t + 1)) (nI_add t 1) ?_
      refine xi_callV [.int (nI (t + 1))] [] dX5_work_14 zX5_stateAt mlX5_22 cc9 rfl rfl rfl rfl rfl (Nat.le_of_ble_eq_true rfl) (Nat.le_of_ble_eq_true rfl) ⟨by decide, by decide⟩ ?_
      refine g_at9 (t := t + 1) (by omega) ?_
      show WP _ _ 17 _ [.ref (61 + 10 * ((t + 1) % 16))] _ _
      obtain ⟨r1, er1⟩ : ∃ z, z = 61 + 10 * ((t + 1) % 16) := ⟨_, rfl⟩
      rw [← er1]
      have hr1 : isSt r1 := by rw [er1]; exact isSt_ring _
      refine xi_astore (lv' := [some (.ref 9), some (.int (nI fr)), some (.int (nI to)), some (.ref 13), some (.int (nI t)), some (.ref r1)]) dX5_work_17 (by decide) rfl ?_
      refine xi_aload dX5_work_19 rfl ?_
      refine xi_aload_n dX5_work_21 rfl ?_
      refine xi_iload dX5_work_22 rfl ?_
      refine xi_callV [.int (nI t)] [.ref r1] dX5_work_24 zX5_stateAt mlX5_22 cc9 rfl rfl rfl rfl rfl (Nat.le_of_ble_eq_true rfl) (Nat.le_of_ble_eq_true rfl) ⟨by decide, by decide⟩ ?_
      refine g_at9 (t := t) (by omega) ?_
      show WP _ _ 27 _ [.ref (61 + 10 * ((t) % 16)), .ref r1] _ _
      obtain ⟨r0, er0⟩ : ∃ z, z = 61 + 10 * ((t) % 16) := ⟨_, rfl⟩
      rw [← er0]
      have hr0 : isSt r0 := by rw [er0]; exact isSt_ring _
      refine xi_callV [.ref r0] [] dX5_work_27 zX6_copyFrom mlX5_18 (so hr1) rfl rfl rfl rfl rfl (Nat.le_of_ble_eq_true rfl) (Nat.le_of_ble_eq_true rfl) ⟨by decide, by decide⟩ ?_
      refine s_copy hW hr1 hr0 (by rw [er0]; exact hR t (by omega) (by omega)) (fun M1 hF1 hS1 => ?_)
      have hG1 := CG.fr hG hr1 hF1
      have hL1 := hL.fr hr1 hF1
      show WP _ _ 30 _ [] _ _
      refine xi_aload dX5_work_30 rfl ?_
      refine xi_iload dX5_work_32 rfl ?_
      refine xi_aload_n dX5_work_34 rfl ?_
      refine xi_callV [.int (nI t), .ref 13] [] dX5_work_35 zX6_moveBodies mlX5_26 (so hr1) rfl rfl rfl rfl rfl (Nat.le_of_ble_eq_true rfl) (Nat.le_of_ble_eq_true rfl) ⟨by decide, by decide⟩ ?_
      refine s_bodies hW hr1 hG1 hS1 hw (by omega) hL1 (fun M2 hF2 hS2 hL2 => ?_)
      have hG2 := CG.fl hG1 hr1 hF2
      have hw2 := wS_bodies (A := A) (t := t) (H := H) hW hw
      show WP _ _ 38 _ [] _ _
      refine xi_aload dX5_work_38 rfl ?_
      refine xi_callV [] [] dX5_work_40 zX6_moveBeasts mlX5_30 (so hr1) rfl rfl rfl rfl rfl (Nat.le_of_ble_eq_true rfl) (Nat.le_of_ble_eq_true rfl) ⟨by decide, by decide⟩ ?_
      refine s_beasts hW hG2 hr1 hS2 hw2 (fun M3 hF3 hS3 => ?_)
      have hG3 := CG.fr hG2 hr1 hF3
      have hw3 := wS_beasts hW hw2
      show WP _ _ 43 _ [] _ _
      refine xi_aload dX5_work_43 rfl ?_
      refine xi_callV [] [] dX5_work_45 zX6_endTick mlX5_33 (so hr1) rfl rfl rfl rfl rfl (Nat.le_of_ble_eq_true rfl) (Nat.le_of_ble_eq_true rfl) ⟨by decide, by decide⟩ ?_
      refine s_end hW hG3 hr1 hS3 hw3 (fun M4 hF4 hS4 => ?_)
      have hG4 := CG.fr hG3 hr1 hF4
      have hL4 := (hL2.fr hr1 hF3).fr hr1 hF4
      show WP _ _ 48 _ [] _ _
      refine xi_iinc (v := nI (t + 1)) (lv' := [some (.ref 9), some (.int (nI fr)), some (.int (nI to)), some (.ref 13), some (.int (nI (t + 1))), some (.ref r1)]) dX5_work_48 rfl (xinc t) (by decide) rfl ?_
      refine xi_goto 3 dX5_work_51 (by decide) ?_
      refine xi_drop [true, true, true, true, true, false] rfl ?_
      rw [mbodies_S, ← hZ t (by omega) (by omega)] at hS4
      have hFL : FL r1 M M4 := ((hF1.fl.tr hF2).tr hF3.fl).tr hF4.fl
      have hR4 : CR G Z M4 (max lo (t + 1 - 15)) (t + 1) := by
        intro s h1 h2
        by_cases e : s = t + 1
        · subst e; rw [← er1]; exact hS4
        · rw [er1] at hFL; exact (hR s (by omega) (by omega)).fl (isSt_ring s) hFL (by omega)
      have hw4 : wS G (Z (t + 1)) := by rw [hZ t (by omega) (by omega)]; exact wS_tick hW hw
      exact ih (t + 1) M4 _ (by omega) (by omega) hG4 hR4 hw4 hL4 (fun s h1 h2 => hZ s (by omega) h2) (fun M9 hF9 hR9 hL9 hw9 => h M9 ((hFL.fk (by omega) (by omega)).tr hF9) hR9 hL9 hw9)

set_option maxHeartbeats 4000000 in
set_option maxRecDepth 100000 in
theorem s_work9 {G : xG} {A : Nat → Nat} {L : Nat → Bool} {Z : Nat → xS} {Q : Option Value → xM → Prop} (hW : wG G) {lo : Nat} {fr to : Nat} (hto : to ≤ 500) {M : xM} {H : Nat → Nat} (hft : fr ≤ to) (hlo : lo ≤ fr) (hG : CG G M) (hR : CR G Z M (max lo (fr - 15)) fr) (hw : wS G (Z fr)) (hL : CLg A H L M) (hZ : ∀ s, fr ≤ s → s < to → Z (s + 1) = mtick G A s (Z s)) (h : ∀ M2, FK 62 220 M M2 → CR G Z M2 (max lo (to - 15)) to → CLg A (mwH G A Z fr (to - fr) H) L M2 → wS G (Z to) → Q none M2) : WP shC mX5_work 0 [some (.ref 9), some (.int (nI fr)), some (.int (nI to)), some (.ref 13), none, none] [] M Q := by
  refine xi_iload_n dX5_work_0 rfl ?_
  refine xi_istore (lv' := [some (.ref 9), some (.int (nI fr)), some (.int (nI to)), some (.ref 13), some (.int (nI fr)), none]) dX5_work_1 (by decide) rfl ?_
  exact l_work9 hW hto (to - fr) fr M H (by omega) hlo hG hR hw hL hZ h

set_option maxHeartbeats 4000000 in
set_option maxRecDepth 100000 in
theorem l_work11 {G : xG} {A : Nat → Nat} {L : Nat → Bool} {Z : Nat → xS} {Q : Option Value → xM → Prop} (hW : wG G) {fr to : Nat} (hto : to ≤ 500) : ∀ (f t : Nat) (M : xM) (H : Nat → Nat), t + f = to → CG G M → CS G (Z t) M 221 → wS G (Z t) → CLg A H L M → (∀ s, t ≤ s → s < to → Z (s + 1) = mtick G A s (Z s)) → (∀ M2, FK 222 230 M M2 → CS G (Z to) M2 221 → CLg A (mwH G A Z t f H) L M2 → wS G (Z to) → Q none M2) → WP shC mX5_work 3 [some (.ref 11), some (.int (nI fr)), some (.int (nI to)), some (.ref 13), some (.int (nI t)), none] [] M Q := by
  obtain ⟨b1, b2, b3, b4, b5, b6, b7, b8, b9, wmap, wlink, wk0, wk1, b10, b11, wword⟩ := id hW
  intro f
  induction f with
  | zero =>
    intro t M H hf hG hR hw hL hZ h
    obtain rfl : t = to := by omega
    refine xi_iload dX5_work_3 rfl ?_
    refine xi_iload_n dX5_work_5 rfl ?_
    refine xn_icmp_ge t t 54 dX5_work_6 (by decide) rfl rfl (by omega) (by omega) (fun h6 => ?_) (fun h6 => ?_)
    · skip
      refine xi_vret dX5_work_54 rfl ?_
      exact h M FK.rf hR hL hw
    · omega
  | succ f ih =>
    intro t M H hf hG hR hw hL hZ h
    refine xi_iload dX5_work_3 rfl ?_
    refine xi_iload_n dX5_work_5 rfl ?_
    refine xn_icmp_ge t to 54 dX5_work_6 (by decide) rfl rfl (by omega) (by omega) (fun h6 => ?_) (fun h6 => ?_)
    · omega
    · skip
      refine xi_aload_n dX5_work_9 rfl ?_
      refine xi_iload dX5_work_10 rfl ?_
      refine xi_iconst (v := 1) dX5_work_12 rfl ?_
      refine xe_iadd dX5_work_13 (v := nI (t + 1)) (nI_add t 1) ?_
      refine xi_callV [.int (nI (t + 1))] [] dX5_work_14 zX5_stateAt mlX5_22 cc11 rfl rfl rfl rfl rfl (Nat.le_of_ble_eq_true rfl) (Nat.le_of_ble_eq_true rfl) ⟨by decide, by decide⟩ ?_
      refine g_at11 (t := t + 1) (by omega) ?_
      show WP _ _ 17 _ [.ref (221)] _ _
      obtain ⟨r1, er1⟩ : ∃ z, z = 221 := ⟨_, rfl⟩
      rw [← er1]
      have hr1 : isSt r1 := by rw [er1]; exact isSt_lone
      refine xi_astore (lv' := [some (.ref 11), some (.int (nI fr)), some (.int (nI to)), some (.ref 13), some (.int (nI t)), some (.ref r1)]) dX5_work_17 (by decide) rfl ?_
      refine xi_aload dX5_work_19 rfl ?_
      refine xi_aload_n dX5_work_21 rfl ?_
      refine xi_iload dX5_work_22 rfl ?_
      refine xi_callV [.int (nI t)] [.ref r1] dX5_work_24 zX5_stateAt mlX5_22 cc11 rfl rfl rfl rfl rfl (Nat.le_of_ble_eq_true rfl) (Nat.le_of_ble_eq_true rfl) ⟨by decide, by decide⟩ ?_
      refine g_at11 (t := t) (by omega) ?_
      show WP _ _ 27 _ [.ref (221), .ref r1] _ _
      obtain ⟨r0, er0⟩ : ∃ z, z = 221 := ⟨_, rfl⟩
      rw [← er0]
      have hr0 : isSt r0 := by rw [er0]; exact isSt_lone
      refine xi_callV [.ref r0] [] dX5_work_27 zX6_copyFrom mlX5_18 (so hr1) rfl rfl rfl rfl rfl (Nat.le_of_ble_eq_true rfl) (Nat.le_of_ble_eq_true rfl) ⟨by decide, by decide⟩ ?_
      refine s_copy hW hr1 hr0 (by rw [er0]; exact hR) (fun M1 hF1 hS1 => ?_)
      have hG1 := CG.fr hG hr1 hF1
      have hL1 := hL.fr hr1 hF1
      show WP _ _ 30 _ [] _ _
      refine xi_aload dX5_work_30 rfl ?_
      refine xi_iload dX5_work_32 rfl ?_
      refine xi_aload_n dX5_work_34 rfl ?_
      refine xi_callV [.int (nI t), .ref 13] [] dX5_work_35 zX6_moveBodies mlX5_26 (so hr1) rfl rfl rfl rfl rfl (Nat.le_of_ble_eq_true rfl) (Nat.le_of_ble_eq_true rfl) ⟨by decide, by decide⟩ ?_
      refine s_bodies hW hr1 hG1 hS1 hw (by omega) hL1 (fun M2 hF2 hS2 hL2 => ?_)
      have hG2 := CG.fl hG1 hr1 hF2
      have hw2 := wS_bodies (A := A) (t := t) (H := H) hW hw
      show WP _ _ 38 _ [] _ _
      refine xi_aload dX5_work_38 rfl ?_
      refine xi_callV [] [] dX5_work_40 zX6_moveBeasts mlX5_30 (so hr1) rfl rfl rfl rfl rfl (Nat.le_of_ble_eq_true rfl) (Nat.le_of_ble_eq_true rfl) ⟨by decide, by decide⟩ ?_
      refine s_beasts hW hG2 hr1 hS2 hw2 (fun M3 hF3 hS3 => ?_)
      have hG3 := CG.fr hG2 hr1 hF3
      have hw3 := wS_beasts hW hw2
      show WP _ _ 43 _ [] _ _
      refine xi_aload dX5_work_43 rfl ?_
      refine xi_callV [] [] dX5_work_45 zX6_endTick mlX5_33 (so hr1) rfl rfl rfl rfl rfl (Nat.le_of_ble_eq_true rfl) (Nat.le_of_ble_eq_true rfl) ⟨by decide, by decide⟩ ?_
      refine s_end hW hG3 hr1 hS3 hw3 (fun M4 hF4 hS4 => ?_)
      have hG4 := CG.fr hG3 hr1 hF4
      have hL4 := (hL2.fr hr1 hF3).fr hr1 hF4
      show WP _ _ 48 _ [] _ _
      refine xi_iinc (v := nI (t + 1)) (lv' := [some (.ref 11), some (.int (nI fr)), some (.int (nI to)), some (.ref 13), some (.int (nI (t + 1))), some (.ref r1)]) dX5_work_48 rfl (xinc t) (by decide) rfl ?_
      refine xi_goto 3 dX5_work_51 (by decide) ?_
      refine xi_drop [true, true, true, true, true, false] rfl ?_
      rw [mbodies_S, ← hZ t (by omega) (by omega)] at hS4
      have hFL : FL r1 M M4 := ((hF1.fl.tr hF2).tr hF3.fl).tr hF4.fl
      have hR4 : CS G (Z (t + 1)) M4 221 := by rw [← er1]; exact hS4
      have hw4 : wS G (Z (t + 1)) := by rw [hZ t (by omega) (by omega)]; exact wS_tick hW hw
      exact ih (t + 1) M4 _ (by omega) hG4 hR4 hw4 hL4 (fun s h1 h2 => hZ s (by omega) h2) (fun M9 hF9 hR9 hL9 hw9 => h M9 ((hFL.fk (by omega) (by omega)).tr hF9) hR9 hL9 hw9)

set_option maxHeartbeats 4000000 in
set_option maxRecDepth 100000 in
theorem s_work11 {G : xG} {A : Nat → Nat} {L : Nat → Bool} {Z : Nat → xS} {Q : Option Value → xM → Prop} (hW : wG G) {fr to : Nat} (hto : to ≤ 500) {M : xM} {H : Nat → Nat} (hft : fr ≤ to) (hG : CG G M) (hR : CS G (Z fr) M 221) (hw : wS G (Z fr)) (hL : CLg A H L M) (hZ : ∀ s, fr ≤ s → s < to → Z (s + 1) = mtick G A s (Z s)) (h : ∀ M2, FK 222 230 M M2 → CS G (Z to) M2 221 → CLg A (mwH G A Z fr (to - fr) H) L M2 → wS G (Z to) → Q none M2) : WP shC mX5_work 0 [some (.ref 11), some (.int (nI fr)), some (.int (nI to)), some (.ref 13), none, none] [] M Q := by
  refine xi_iload_n dX5_work_0 rfl ?_
  refine xi_istore (lv' := [some (.ref 11), some (.int (nI fr)), some (.int (nI to)), some (.ref 13), some (.int (nI fr)), none]) dX5_work_1 (by decide) rfl ?_
  exact l_work11 hW hto (to - fr) fr M H (by omega) hG hR hw hL hZ h

