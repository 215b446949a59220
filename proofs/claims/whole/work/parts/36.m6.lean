theorem menter_no {G : xG} {S : xS} {n : Nat} {o : Option Nat} (h : ¬ mfree G S o = true) : menter G S n o = S := by
  cases o with
  | none => rfl
  | some k => exact if_neg h
theorem mhuntL_0 {G : xG} {S : xS} {n : Nat} (h : ¬ 0 < sL S n) : ∀ f, mhuntL G n f S = S
  | 0 => rfl
  | f + 1 => by rw [mhuntL, if_neg h]
theorem mhuntL_s {G : xG} {S : xS} {n f : Nat} (h : 0 < sL S n) : mhuntL G n (f + 1) S = if (mhunt1 G S n).1 = true then (mhunt1 G S n).2 else mhuntL G n f (mhunt1 G S n).2 := by
  rw [mhuntL, if_pos h]
  unfold mhunt1
  cases mprey G S n with
  | none => rfl
  | some q =>
    show (if mdist G S n q = 1 then mhurt G S q 1 else mhuntL G n f (menter G S n (mtow G S n q))) = _
    by_cases e : mdist G S n q = 1
    · simp [e]
    · simp [e]
theorem wS_hunt1 {G : xG} {S : xS} {n : Nat} (hW : wG G) (h : wS G S) (hn : n < gT G) (hl : 0 < sL S n) : wS G (mhunt1 G S n).2 := by
  have := wS_hunt (f := 1) hW h hn
  rw [mhuntL_s hl] at this
  split at this <;> exact this
set_option maxHeartbeats 4000000 in
set_option maxRecDepth 100000 in
theorem n_hunt152 {G : xG} {S : xS} {M : xM} {s : Nat} {Q : Option Value → xM → Prop} (hW : wG G) (hG : MG G M) (hs : s ≤ 56000) (hS : RM G S M s) (hw : wS G S) {n q : Nat} (hn : n < gT G) (hq : q < gT G) (hkn : gkind G n ≤ 2) (hkq : gkind G q ≤ 2) (ep : mprey G S n = some q) (hd : ¬ mdist G S n q = 1) {o1 o2 : Option Nat} (e1 : mside G S n q = o1) (e2 : mupdn G S n q = o2) (h1 : ∀ k, o1 = some k → k < gN G) (h2 : ∀ k, o2 = some k → k < gN G) (h : ∀ M2, Fm s M M2 → RM G (mhunt1 G S n).2 M2 s → Q (some (.int (xb (mhunt1 G S n).1))) M2) : WP shM mX10_hunt 152 [some (.ref 0), some (.int (nI s)), some (.int (nI n)), some (.int (nI q)), some (.int (nI (mpos S n))), some (.int (nI (mpos S q))), some (.int (xz (mdx G (mpos S n) (mpos S q)))), some (.int (xz (mdy G (mpos S n) (mpos S q)))), some (.int (xo o1)), some (.int (xo o2)), none, none, none] [] M Q := by
  obtain ⟨b1, b2, b3, b4, b5, b6, b7, b8, b9, wmap, wlink, wk0, wk1, b10, b11, wword⟩ := id hW
  have hpn := mpos_at hW hw hn hkn
  have hpq := mpos_at hW hw hq hkq
  have bx := mdx_bd hW (mpos S n) (mpos S q)
  have by_ := mdy_bd hW hpn.2 hpq.2
  refine xi_iload dX10_hunt_152 rfl ?_
  refine xi_callS [.int (xz (mdx G (mpos S n) (mpos S q)))] [] dX10_hunt_154 zX10_amount mlX10_168 rfl rfl rfl (Nat.le_of_ble_eq_true rfl) (Nat.le_of_ble_eq_true rfl) ⟨by decide, by decide⟩ ?_
  refine n_amount (z := (mdx G (mpos S n) (mpos S q))) (by omega) (by omega) ?_
  show WP _ _ 157 _ [.int (nI ((mdx G (mpos S n) (mpos S q)).natAbs))] _ _
  refine xi_iload dX10_hunt_157 rfl ?_
  refine xi_callS [.int (xz (mdy G (mpos S n) (mpos S q)))] [.int (nI ((mdx G (mpos S n) (mpos S q)).natAbs))] dX10_hunt_159 zX10_amount mlX10_168 rfl rfl rfl (Nat.le_of_ble_eq_true rfl) (Nat.le_of_ble_eq_true rfl) ⟨by decide, by decide⟩ ?_
  refine n_amount (z := (mdy G (mpos S n) (mpos S q))) (by omega) (by omega) ?_
  show WP _ _ 162 _ [.int (nI ((mdy G (mpos S n) (mpos S q)).natAbs)), .int (nI ((mdx G (mpos S n) (mpos S q)).natAbs))] _ _
  refine xn_icmp_lt ((mdx G (mpos S n) (mpos S q)).natAbs) ((mdy G (mpos S n) (mpos S q)).natAbs) 169 dX10_hunt_162 (by decide) rfl rfl (by omega) (by omega) (fun h162 => ?_) (fun h162 => ?_)
  · skip
    refine xi_iconst (v := 0) dX10_hunt_169 rfl ?_
    refine xi_istore (lv' := [some (.ref 0), some (.int (nI s)), some (.int (nI n)), some (.int (nI q)), some (.int (nI (mpos S n))), some (.int (nI (mpos S q))), some (.int (xz (mdx G (mpos S n) (mpos S q)))), some (.int (xz (mdy G (mpos S n) (mpos S q)))), some (.int (xo o1)), some (.int (xo o2)), some (.int 0), none, none]) dX10_hunt_170 (by decide) rfl ?_
    refine xi_iload dX10_hunt_172 rfl ?_
    refine xn_if_eq 0 182 dX10_hunt_174 (by decide) rfl (by omega) (fun h174 => ?_) (fun h174 => ?_)
    · skip
      refine xi_iload dX10_hunt_182 rfl ?_
      refine xi_istore (lv' := [some (.ref 0), some (.int (nI s)), some (.int (nI n)), some (.int (nI q)), some (.int (nI (mpos S n))), some (.int (nI (mpos S q))), some (.int (xz (mdx G (mpos S n) (mpos S q)))), some (.int (xz (mdy G (mpos S n) (mpos S q)))), some (.int (xo o1)), some (.int (xo o2)), some (.int 0), some (.int (xo o2)), none]) dX10_hunt_184 (by decide) rfl ?_
      refine xi_iload dX10_hunt_186 rfl ?_
      refine xn_if_eq 0 196 dX10_hunt_188 (by decide) rfl (by omega) (fun h188 => ?_) (fun h188 => ?_)
      · skip
        refine xi_iload dX10_hunt_196 rfl ?_
        refine xi_istore (lv' := [some (.ref 0), some (.int (nI s)), some (.int (nI n)), some (.int (nI q)), some (.int (nI (mpos S n))), some (.int (nI (mpos S q))), some (.int (xz (mdx G (mpos S n) (mpos S q)))), some (.int (xz (mdy G (mpos S n) (mpos S q)))), some (.int (xo o1)), some (.int (xo o2)), some (.int 0), some (.int (xo o2)), some (.int (xo o1))]) dX10_hunt_198 (by decide) rfl ?_
        refine xi_aload_n dX10_hunt_200 rfl ?_
        refine xi_iload_n dX10_hunt_201 rfl ?_
        refine xi_iload dX10_hunt_202 rfl ?_
        refine xi_callV [.int (nI s), .int (xo o2)] [] dX10_hunt_204 zX10_isFree mlX10_195 mm0 rfl rfl rfl rfl rfl (Nat.le_of_ble_eq_true rfl) (Nat.le_of_ble_eq_true rfl) ⟨by decide, by decide⟩ ?_
        refine n_free hW hG hs hS hw (o := o2) h2 ?_
        show WP _ _ 207 _ [.int (xb (mfree G S o2))] _ _
        refine xb_if_eq (mfree G S o2) 221 dX10_hunt_207 (by decide) rfl (fun h207 => ?_) (fun h207 => ?_)
        · skip
          refine xi_aload_n dX10_hunt_221 rfl ?_
          refine xi_iload_n dX10_hunt_222 rfl ?_
          refine xi_iload dX10_hunt_223 rfl ?_
          refine xi_callV [.int (nI s), .int (xo o1)] [] dX10_hunt_225 zX10_isFree mlX10_195 mm0 rfl rfl rfl rfl rfl (Nat.le_of_ble_eq_true rfl) (Nat.le_of_ble_eq_true rfl) ⟨by decide, by decide⟩ ?_
          refine n_free hW hG hs hS hw (o := o1) h1 ?_
          show WP _ _ 228 _ [.int (xb (mfree G S o1))] _ _
          refine xb_if_eq (mfree G S o1) 239 dX10_hunt_228 (by decide) rfl (fun h228 => ?_) (fun h228 => ?_)
          · skip
            refine xi_iconst (v := 0) dX10_hunt_239 rfl ?_
            refine xi_zret (v := 0) dX10_hunt_240 rfl (by decide) ?_
            have e : mhunt1 G S n = (false, S) := by
              unfold mhunt1
              rw [ep]
              show (if mdist G S n q = 1 then (true, mhurt G S q 1) else (false, menter G S n (mtow G S n q))) = _
              rw [if_neg hd, mtow, e1, e2, if_neg (by omega)]
              rw [if_neg (by simp [h207]), menter_no (by simp [h228])]
            rw [e] at h
            exact h M Fm.rf hS
          · skip
            obtain ⟨k, rfl⟩ : ∃ k, o1 = some k := by
              cases o1 with
              | none => simp [mfree] at h228
              | some k => exact ⟨k, rfl⟩
            show WP _ _ 231 [some (.ref 0), some (.int (nI s)), some (.int (nI n)), some (.int (nI q)), some (.int (nI (mpos S n))), some (.int (nI (mpos S q))), some (.int (xz (mdx G (mpos S n) (mpos S q)))), some (.int (xz (mdy G (mpos S n) (mpos S q)))), some (.int (nI k)), some (.int (xo o2)), some (.int 0), some (.int (xo o2)), some (.int (nI k))] [] _ _
            have hk := h1 k rfl
            refine xi_aload_n dX10_hunt_231 rfl ?_
            refine xi_iload_n dX10_hunt_232 rfl ?_
            refine xi_iload_n dX10_hunt_233 rfl ?_
            refine xi_iload dX10_hunt_234 rfl ?_
            refine xi_callV [.int (nI s), .int (nI n), .int (nI k)] [] dX10_hunt_236 zX10_goTo mlX10_198 mm0 rfl rfl rfl rfl rfl (Nat.le_of_ble_eq_true rfl) (Nat.le_of_ble_eq_true rfl) ⟨by decide, by decide⟩ ?_
            refine n_go hW hG hs hS hw (n := n) (k := k) (by omega) (by omega) (fun M1 hF1 hS1 => ?_)
            have hG1 : MG G M1 := MG.fm hG hF1
            have hw1 : wS G (mgo G S n k) := wS_go hw (by omega) (by omega)
            show WP _ _ 239 _ [] _ _
            refine xi_iconst (v := 0) dX10_hunt_239 rfl ?_
            refine xi_zret (v := 0) dX10_hunt_240 rfl (by decide) ?_
            have e : mhunt1 G S n = (false, (mgo G S n k)) := by
              unfold mhunt1
              rw [ep]
              show (if mdist G S n q = 1 then (true, mhurt G S q 1) else (false, menter G S n (mtow G S n q))) = _
              rw [if_neg hd, mtow, e1, e2, if_neg (by omega)]
              rw [if_neg (by simp [h207]), menter, if_pos h228]
            rw [e] at h
            exact h M1 hF1 hS1
        · skip
          obtain ⟨k, rfl⟩ : ∃ k, o2 = some k := by
            cases o2 with
            | none => simp [mfree] at h207
            | some k => exact ⟨k, rfl⟩
          show WP _ _ 210 [some (.ref 0), some (.int (nI s)), some (.int (nI n)), some (.int (nI q)), some (.int (nI (mpos S n))), some (.int (nI (mpos S q))), some (.int (xz (mdx G (mpos S n) (mpos S q)))), some (.int (xz (mdy G (mpos S n) (mpos S q)))), some (.int (xo o1)), some (.int (nI k)), some (.int 0), some (.int (nI k)), some (.int (xo o1))] [] _ _
          have hk := h2 k rfl
          refine xi_aload_n dX10_hunt_210 rfl ?_
          refine xi_iload_n dX10_hunt_211 rfl ?_
          refine xi_iload_n dX10_hunt_212 rfl ?_
          refine xi_iload dX10_hunt_213 rfl ?_
          refine xi_callV [.int (nI s), .int (nI n), .int (nI k)] [] dX10_hunt_215 zX10_goTo mlX10_198 mm0 rfl rfl rfl rfl rfl (Nat.le_of_ble_eq_true rfl) (Nat.le_of_ble_eq_true rfl) ⟨by decide, by decide⟩ ?_
          refine n_go hW hG hs hS hw (n := n) (k := k) (by omega) (by omega) (fun M2 hF2 hS2 => ?_)
          have hG2 : MG G M2 := MG.fm hG hF2
          have hw2 : wS G (mgo G S n k) := wS_go hw (by omega) (by omega)
          show WP _ _ 218 _ [] _ _
          refine xi_goto 239 dX10_hunt_218 (by decide) ?_
          refine xi_iconst (v := 0) dX10_hunt_239 rfl ?_
          refine xi_zret (v := 0) dX10_hunt_240 rfl (by decide) ?_
          have e : mhunt1 G S n = (false, (mgo G S n k)) := by
            unfold mhunt1
            rw [ep]
            show (if mdist G S n q = 1 then (true, mhurt G S q 1) else (false, menter G S n (mtow G S n q))) = _
            rw [if_neg hd, mtow, e1, e2, if_neg (by omega)]
            rw [if_pos h207, menter, if_pos h207]
          rw [e] at h
          exact h M2 hF2 hS2
      · omega
    · omega
  · skip
    refine xi_iconst (v := 1) dX10_hunt_165 rfl ?_
    refine xi_goto 170 dX10_hunt_166 (by decide) ?_
    refine xi_istore (lv' := [some (.ref 0), some (.int (nI s)), some (.int (nI n)), some (.int (nI q)), some (.int (nI (mpos S n))), some (.int (nI (mpos S q))), some (.int (xz (mdx G (mpos S n) (mpos S q)))), some (.int (xz (mdy G (mpos S n) (mpos S q)))), some (.int (xo o1)), some (.int (xo o2)), some (.int 1), none, none]) dX10_hunt_170 (by decide) rfl ?_
    refine xi_iload dX10_hunt_172 rfl ?_
    refine xn_if_eq 1 182 dX10_hunt_174 (by decide) rfl (by omega) (fun h174 => ?_) (fun h174 => ?_)
    · omega
    · skip
      refine xi_iload dX10_hunt_177 rfl ?_
      refine xi_goto 184 dX10_hunt_179 (by decide) ?_
      refine xi_istore (lv' := [some (.ref 0), some (.int (nI s)), some (.int (nI n)), some (.int (nI q)), some (.int (nI (mpos S n))), some (.int (nI (mpos S q))), some (.int (xz (mdx G (mpos S n) (mpos S q)))), some (.int (xz (mdy G (mpos S n) (mpos S q)))), some (.int (xo o1)), some (.int (xo o2)), some (.int 1), some (.int (xo o1)), none]) dX10_hunt_184 (by decide) rfl ?_
      refine xi_iload dX10_hunt_186 rfl ?_
      refine xn_if_eq 1 196 dX10_hunt_188 (by decide) rfl (by omega) (fun h188 => ?_) (fun h188 => ?_)
      · omega
      · skip
        refine xi_iload dX10_hunt_191 rfl ?_
        refine xi_goto 198 dX10_hunt_193 (by decide) ?_
        refine xi_istore (lv' := [some (.ref 0), some (.int (nI s)), some (.int (nI n)), some (.int (nI q)), some (.int (nI (mpos S n))), some (.int (nI (mpos S q))), some (.int (xz (mdx G (mpos S n) (mpos S q)))), some (.int (xz (mdy G (mpos S n) (mpos S q)))), some (.int (xo o1)), some (.int (xo o2)), some (.int 1), some (.int (xo o1)), some (.int (xo o2))]) dX10_hunt_198 (by decide) rfl ?_
        refine xi_aload_n dX10_hunt_200 rfl ?_
        refine xi_iload_n dX10_hunt_201 rfl ?_
        refine xi_iload dX10_hunt_202 rfl ?_
        refine xi_callV [.int (nI s), .int (xo o1)] [] dX10_hunt_204 zX10_isFree mlX10_195 mm0 rfl rfl rfl rfl rfl (Nat.le_of_ble_eq_true rfl) (Nat.le_of_ble_eq_true rfl) ⟨by decide, by decide⟩ ?_
        refine n_free hW hG hs hS hw (o := o1) h1 ?_
        show WP _ _ 207 _ [.int (xb (mfree G S o1))] _ _
        refine xb_if_eq (mfree G S o1) 221 dX10_hunt_207 (by decide) rfl (fun h207 => ?_) (fun h207 => ?_)
        · skip
          refine xi_aload_n dX10_hunt_221 rfl ?_
          refine xi_iload_n dX10_hunt_222 rfl ?_
          refine xi_iload dX10_hunt_223 rfl ?_
          refine xi_callV [.int (nI s), .int (xo o2)] [] dX10_hunt_225 zX10_isFree mlX10_195 mm0 rfl rfl rfl rfl rfl (Nat.le_of_ble_eq_true rfl) (Nat.le_of_ble_eq_true rfl) ⟨by decide, by decide⟩ ?_
          refine n_free hW hG hs hS hw (o := o2) h2 ?_
          show WP _ _ 228 _ [.int (xb (mfree G S o2))] _ _
          refine xb_if_eq (mfree G S o2) 239 dX10_hunt_228 (by decide) rfl (fun h228 => ?_) (fun h228 => ?_)
          · skip
            refine xi_iconst (v := 0) dX10_hunt_239 rfl ?_
            refine xi_zret (v := 0) dX10_hunt_240 rfl (by decide) ?_
            have e : mhunt1 G S n = (false, S) := by
              unfold mhunt1
              rw [ep]
              show (if mdist G S n q = 1 then (true, mhurt G S q 1) else (false, menter G S n (mtow G S n q))) = _
              rw [if_neg hd, mtow, e1, e2, if_pos (by omega)]
              rw [if_neg (by simp [h207]), menter_no (by simp [h228])]
            rw [e] at h
            exact h M Fm.rf hS
          · skip
            obtain ⟨k, rfl⟩ : ∃ k, o2 = some k := by
              cases o2 with
              | none => simp [mfree] at h228
              | some k => exact ⟨k, rfl⟩
            show WP _ _ 231 [some (.ref 0), some (.int (nI s)), some (.int (nI n)), some (.int (nI q)), some (.int (nI (mpos S n))), some (.int (nI (mpos S q))), some (.int (xz (mdx G (mpos S n) (mpos S q)))), some (.int (xz (mdy G (mpos S n) (mpos S q)))), some (.int (xo o1)), some (.int (nI k)), some (.int 1), some (.int (xo o1)), some (.int (nI k))] [] _ _
            have hk := h2 k rfl
            refine xi_aload_n dX10_hunt_231 rfl ?_
            refine xi_iload_n dX10_hunt_232 rfl ?_
            refine xi_iload_n dX10_hunt_233 rfl ?_
            refine xi_iload dX10_hunt_234 rfl ?_
            refine xi_callV [.int (nI s), .int (nI n), .int (nI k)] [] dX10_hunt_236 zX10_goTo mlX10_198 mm0 rfl rfl rfl rfl rfl (Nat.le_of_ble_eq_true rfl) (Nat.le_of_ble_eq_true rfl) ⟨by decide, by decide⟩ ?_
            refine n_go hW hG hs hS hw (n := n) (k := k) (by omega) (by omega) (fun M3 hF3 hS3 => ?_)
            have hG3 : MG G M3 := MG.fm hG hF3
            have hw3 : wS G (mgo G S n k) := wS_go hw (by omega) (by omega)
            show WP _ _ 239 _ [] _ _
            refine xi_iconst (v := 0) dX10_hunt_239 rfl ?_
            refine xi_zret (v := 0) dX10_hunt_240 rfl (by decide) ?_
            have e : mhunt1 G S n = (false, (mgo G S n k)) := by
              unfold mhunt1
              rw [ep]
              show (if mdist G S n q = 1 then (true, mhurt G S q 1) else (false, menter G S n (mtow G S n q))) = _
              rw [if_neg hd, mtow, e1, e2, if_pos (by omega)]
              rw [if_neg (by simp [h207]), menter, if_pos h228]
            rw [e] at h
            exact h M3 hF3 hS3
        · skip
          obtain ⟨k, rfl⟩ : ∃ k, o1 = some k := by
            cases o1 with
            | none => simp [mfree] at h207
            | some k => exact ⟨k, rfl⟩
          show WP _ _ 210 [some (.ref 0), some (.int (nI s)), some (.int (nI n)), some (.int (nI q)), some (.int (nI (mpos S n))), some (.int (nI (mpos S q))), some (.int (xz (mdx G (mpos S n) (mpos S q)))), some (.int (xz (mdy G (mpos S n) (mpos S q)))), some (.int (nI k)), some (.int (xo o2)), some (.int 1), some (.int (nI k)), some (.int (xo o2))] [] _ _
          have hk := h1 k rfl
          refine xi_aload_n dX10_hunt_210 rfl ?_
          refine xi_iload_n dX10_hunt_211 rfl ?_
          refine xi_iload_n dX10_hunt_212 rfl ?_
          refine xi_iload dX10_hunt_213 rfl ?_
          refine xi_callV [.int (nI s), .int (nI n), .int (nI k)] [] dX10_hunt_215 zX10_goTo mlX10_198 mm0 rfl rfl rfl rfl rfl (Nat.le_of_ble_eq_true rfl) (Nat.le_of_ble_eq_true rfl) ⟨by decide, by decide⟩ ?_
          refine n_go hW hG hs hS hw (n := n) (k := k) (by omega) (by omega) (fun M4 hF4 hS4 => ?_)
          have hG4 : MG G M4 := MG.fm hG hF4
          have hw4 : wS G (mgo G S n k) := wS_go hw (by omega) (by omega)
          show WP _ _ 218 _ [] _ _
          refine xi_goto 239 dX10_hunt_218 (by decide) ?_
          refine xi_iconst (v := 0) dX10_hunt_239 rfl ?_
          refine xi_zret (v := 0) dX10_hunt_240 rfl (by decide) ?_
          have e : mhunt1 G S n = (false, (mgo G S n k)) := by
            unfold mhunt1
            rw [ep]
            show (if mdist G S n q = 1 then (true, mhurt G S q 1) else (false, menter G S n (mtow G S n q))) = _
            rw [if_neg hd, mtow, e1, e2, if_pos (by omega)]
            rw [if_pos h207, menter, if_pos h207]
          rw [e] at h
          exact h M4 hF4 hS4

set_option maxHeartbeats 4000000 in
set_option maxRecDepth 100000 in
theorem n_hunt125 {G : xG} {S : xS} {M : xM} {s : Nat} {Q : Option Value → xM → Prop} (hW : wG G) (hG : MG G M) (hs : s ≤ 56000) (hS : RM G S M s) (hw : wS G S) {n q : Nat} (hn : n < gT G) (hq : q < gT G) (hkn : gkind G n ≤ 2) (hkq : gkind G q ≤ 2) (ep : mprey G S n = some q) (hd : ¬ mdist G S n q = 1) {o1 : Option Nat} (e1 : mside G S n q = o1) (h1 : ∀ k, o1 = some k → k < gN G) (h : ∀ M2, Fm s M M2 → RM G (mhunt1 G S n).2 M2 s → Q (some (.int (xb (mhunt1 G S n).1))) M2) : WP shM mX10_hunt 125 [some (.ref 0), some (.int (nI s)), some (.int (nI n)), some (.int (nI q)), some (.int (nI (mpos S n))), some (.int (nI (mpos S q))), some (.int (xz (mdx G (mpos S n) (mpos S q)))), some (.int (xz (mdy G (mpos S n) (mpos S q)))), some (.int (xo o1)), none, none, none, none] [] M Q := by
  obtain ⟨b1, b2, b3, b4, b5, b6, b7, b8, b9, wmap, wlink, wk0, wk1, b10, b11, wword⟩ := id hW
  have hpn := mpos_at hW hw hn hkn
  have hpq := mpos_at hW hw hq hkq
  have bx := mdx_bd hW (mpos S n) (mpos S q)
  have by_ := mdy_bd hW hpn.2 hpq.2
  refine xi_iload dX10_hunt_125 rfl ?_
  refine xz_if_ne (mdy G (mpos S n) (mpos S q)) 134 dX10_hunt_127 (by decide) rfl (by omega) (by omega) ?_ ?_
  · intro h127
    refine xi_aload_n dX10_hunt_134 rfl ?_
    refine xi_iload dX10_hunt_135 rfl ?_
    refine xi_iload dX10_hunt_137 rfl ?_
    refine xz_if_le (mdy G (mpos S n) (mpos S q)) 146 dX10_hunt_139 (by decide) rfl (by omega) (by omega) ?_ ?_
    · intro h139
      refine xi_iconst (v := 0) dX10_hunt_146 rfl ?_
      refine xi_callV [.int (nI (mpos S n)), .int 0] [] dX10_hunt_147 zX10_nextTo mlX10_192 mm0 rfl rfl rfl rfl rfl (Nat.le_of_ble_eq_true rfl) (Nat.le_of_ble_eq_true rfl) ⟨by decide, by decide⟩ ?_
      refine n_next hW hG (k := mpos S n) (d := 0) (by omega) (by omega) ?_
      show WP _ _ 150 _ [.int (xo (mnext G (mpos S n) 0))] _ _
      generalize eo147 : mnext G (mpos S n) 0 = o147
      refine xi_istore (lv' := [some (.ref 0), some (.int (nI s)), some (.int (nI n)), some (.int (nI q)), some (.int (nI (mpos S n))), some (.int (nI (mpos S q))), some (.int (xz (mdx G (mpos S n) (mpos S q)))), some (.int (xz (mdy G (mpos S n) (mpos S q)))), some (.int (xo o1)), some (.int (xo o147)), none, none, none]) dX10_hunt_150 (by decide) rfl ?_
      exact n_hunt152 hW hG hs hS hw hn hq hkn hkq ep hd (o2 := o147) e1 (by rw [mupdn, if_neg h127, if_neg (by omega), eo147]) h1 (fun k z => mnext_lt hW hpn.2 (eo147.trans z)) h
    · intro h139
      refine xi_iconst (v := 2) dX10_hunt_142 rfl ?_
      refine xi_goto 147 dX10_hunt_143 (by decide) ?_
      refine xi_callV [.int (nI (mpos S n)), .int 2] [] dX10_hunt_147 zX10_nextTo mlX10_192 mm0 rfl rfl rfl rfl rfl (Nat.le_of_ble_eq_true rfl) (Nat.le_of_ble_eq_true rfl) ⟨by decide, by decide⟩ ?_
      refine n_next hW hG (k := mpos S n) (d := 2) (by omega) (by omega) ?_
      show WP _ _ 150 _ [.int (xo (mnext G (mpos S n) 2))] _ _
      generalize eo147 : mnext G (mpos S n) 2 = o147
      refine xi_istore (lv' := [some (.ref 0), some (.int (nI s)), some (.int (nI n)), some (.int (nI q)), some (.int (nI (mpos S n))), some (.int (nI (mpos S q))), some (.int (xz (mdx G (mpos S n) (mpos S q)))), some (.int (xz (mdy G (mpos S n) (mpos S q)))), some (.int (xo o1)), some (.int (xo o147)), none, none, none]) dX10_hunt_150 (by decide) rfl ?_
      exact n_hunt152 hW hG hs hS hw hn hq hkn hkq ep hd (o2 := o147) e1 (by rw [mupdn, if_neg h127, if_pos (by omega), eo147]) h1 (fun k z => mnext_lt hW hpn.2 (eo147.trans z)) h
  · intro h127
    refine xi_iconst (v := (-1)) dX10_hunt_130 rfl ?_
    refine xi_goto 150 dX10_hunt_131 (by decide) ?_
    refine xi_istore (lv' := [some (.ref 0), some (.int (nI s)), some (.int (nI n)), some (.int (nI q)), some (.int (nI (mpos S n))), some (.int (nI (mpos S q))), some (.int (xz (mdx G (mpos S n) (mpos S q)))), some (.int (xz (mdy G (mpos S n) (mpos S q)))), some (.int (xo o1)), some (.int (-1)), none, none, none]) dX10_hunt_150 (by decide) rfl ?_
    exact n_hunt152 hW hG hs hS hw hn hq hkn hkq ep hd (o2 := none) e1 (by rw [mupdn, if_pos h127]) h1 (fun k z => by cases z) h

set_option maxHeartbeats 4000000 in
set_option maxRecDepth 100000 in
theorem n_hunt64 {G : xG} {S : xS} {M : xM} {s : Nat} {Q : Option Value → xM → Prop} (hW : wG G) (hG : MG G M) (hs : s ≤ 56000) (hS : RM G S M s) (hw : wS G S) {n q : Nat} (hn : n < gT G) (hq : q < gT G) (hkn : gkind G n ≤ 2) (hkq : gkind G q ≤ 2) (ep : mprey G S n = some q) (hd : ¬ mdist G S n q = 1) (h : ∀ M2, Fm s M M2 → RM G (mhunt1 G S n).2 M2 s → Q (some (.int (xb (mhunt1 G S n).1))) M2) : WP shM mX10_hunt 64 [some (.ref 0), some (.int (nI s)), some (.int (nI n)), some (.int (nI q)), some (.int (nI (mpos S n))), some (.int (nI (mpos S q))), none, none, none, none, none, none, none] [] M Q := by
  obtain ⟨b1, b2, b3, b4, b5, b6, b7, b8, b9, wmap, wlink, wk0, wk1, b10, b11, wword⟩ := id hW
  have hpn := mpos_at hW hw hn hkn
  have hpq := mpos_at hW hw hq hkq
  have bx := mdx_bd hW (mpos S n) (mpos S q)
  have by_ := mdy_bd hW hpn.2 hpq.2
  refine xi_iload dX10_hunt_64 rfl ?_
  refine xi_aload_n dX10_hunt_66 rfl ?_
  refine xe_getI (v := nI (gw G)) dX10_hunt_67 fgX10_7 mm0 rfl (mg_w hG) ?_
  refine xe_irem dX10_hunt_70 (nI_ne0 (by omega) (by omega)) (v := nI ((mpos S q) % gw G)) (pk_rem (by omega) (by omega) (by omega)) ?_
  refine xi_iload dX10_hunt_71 rfl ?_
  refine xi_aload_n dX10_hunt_73 rfl ?_
  refine xe_getI (v := nI (gw G)) dX10_hunt_74 fgX10_7 mm0 rfl (mg_w hG) ?_
  refine xe_irem dX10_hunt_77 (nI_ne0 (by omega) (by omega)) (v := nI ((mpos S n) % gw G)) (pk_rem (by omega) (by omega) (by omega)) ?_
  refine xe_isub dX10_hunt_78 (v := xz (mdx G (mpos S n) (mpos S q))) (xz_nsub _ _) ?_
  refine xi_istore (lv' := [some (.ref 0), some (.int (nI s)), some (.int (nI n)), some (.int (nI q)), some (.int (nI (mpos S n))), some (.int (nI (mpos S q))), some (.int (xz (mdx G (mpos S n) (mpos S q)))), none, none, none, none, none, none]) dX10_hunt_79 (by decide) rfl ?_
  refine xi_iload dX10_hunt_81 rfl ?_
  refine xat 83 rfl ?_
  refine xi_aload_n dX10_hunt_83 rfl ?_
  refine xe_getI (v := nI (gw G)) dX10_hunt_84 fgX10_7 mm0 rfl (mg_w hG) ?_
  refine xe_idiv dX10_hunt_87 (nI_ne0 (by omega) (by omega)) (v := nI ((mpos S q) / gw G)) (pk_div (by omega) (by omega) (by omega)) ?_
  refine xi_iload dX10_hunt_88 rfl ?_
  refine xi_aload_n dX10_hunt_90 rfl ?_
  refine xe_getI (v := nI (gw G)) dX10_hunt_91 fgX10_7 mm0 rfl (mg_w hG) ?_
  refine xe_idiv dX10_hunt_94 (nI_ne0 (by omega) (by omega)) (v := nI ((mpos S n) / gw G)) (pk_div (by omega) (by omega) (by omega)) ?_
  refine xe_isub dX10_hunt_95 (v := xz (mdy G (mpos S n) (mpos S q))) (xz_nsub _ _) ?_
  refine xi_istore (lv' := [some (.ref 0), some (.int (nI s)), some (.int (nI n)), some (.int (nI q)), some (.int (nI (mpos S n))), some (.int (nI (mpos S q))), some (.int (xz (mdx G (mpos S n) (mpos S q)))), some (.int (xz (mdy G (mpos S n) (mpos S q)))), none, none, none, none, none]) dX10_hunt_96 (by decide) rfl ?_
  refine xi_iload dX10_hunt_98 rfl ?_
  refine xz_if_ne (mdx G (mpos S n) (mpos S q)) 107 dX10_hunt_100 (by decide) rfl (by omega) (by omega) ?_ ?_
  · intro h100
    refine xi_aload_n dX10_hunt_107 rfl ?_
    refine xi_iload dX10_hunt_108 rfl ?_
    refine xi_iload dX10_hunt_110 rfl ?_
    refine xz_if_le (mdx G (mpos S n) (mpos S q)) 119 dX10_hunt_112 (by decide) rfl (by omega) (by omega) ?_ ?_
    · intro h112
      refine xi_iconst (v := 3) dX10_hunt_119 rfl ?_
      refine xi_callV [.int (nI (mpos S n)), .int 3] [] dX10_hunt_120 zX10_nextTo mlX10_192 mm0 rfl rfl rfl rfl rfl (Nat.le_of_ble_eq_true rfl) (Nat.le_of_ble_eq_true rfl) ⟨by decide, by decide⟩ ?_
      refine n_next hW hG (k := mpos S n) (d := 3) (by omega) (by omega) ?_
      show WP _ _ 123 _ [.int (xo (mnext G (mpos S n) 3))] _ _
      generalize eo120 : mnext G (mpos S n) 3 = o120
      refine xi_istore (lv' := [some (.ref 0), some (.int (nI s)), some (.int (nI n)), some (.int (nI q)), some (.int (nI (mpos S n))), some (.int (nI (mpos S q))), some (.int (xz (mdx G (mpos S n) (mpos S q)))), some (.int (xz (mdy G (mpos S n) (mpos S q)))), some (.int (xo o120)), none, none, none, none]) dX10_hunt_123 (by decide) rfl ?_
      exact n_hunt125 hW hG hs hS hw hn hq hkn hkq ep hd (o1 := o120) (by rw [mside, if_neg h100, if_neg (by omega), eo120]) (fun k z => mnext_lt hW hpn.2 (eo120.trans z)) h
    · intro h112
      refine xi_iconst (v := 1) dX10_hunt_115 rfl ?_
      refine xi_goto 120 dX10_hunt_116 (by decide) ?_
      refine xi_callV [.int (nI (mpos S n)), .int 1] [] dX10_hunt_120 zX10_nextTo mlX10_192 mm0 rfl rfl rfl rfl rfl (Nat.le_of_ble_eq_true rfl) (Nat.le_of_ble_eq_true rfl) ⟨by decide, by decide⟩ ?_
      refine n_next hW hG (k := mpos S n) (d := 1) (by omega) (by omega) ?_
      show WP _ _ 123 _ [.int (xo (mnext G (mpos S n) 1))] _ _
      generalize eo120 : mnext G (mpos S n) 1 = o120
      refine xi_istore (lv' := [some (.ref 0), some (.int (nI s)), some (.int (nI n)), some (.int (nI q)), some (.int (nI (mpos S n))), some (.int (nI (mpos S q))), some (.int (xz (mdx G (mpos S n) (mpos S q)))), some (.int (xz (mdy G (mpos S n) (mpos S q)))), some (.int (xo o120)), none, none, none, none]) dX10_hunt_123 (by decide) rfl ?_
      exact n_hunt125 hW hG hs hS hw hn hq hkn hkq ep hd (o1 := o120) (by rw [mside, if_neg h100, if_pos (by omega), eo120]) (fun k z => mnext_lt hW hpn.2 (eo120.trans z)) h
  · intro h100
    refine xi_iconst (v := (-1)) dX10_hunt_103 rfl ?_
    refine xi_goto 123 dX10_hunt_104 (by decide) ?_
    refine xi_istore (lv' := [some (.ref 0), some (.int (nI s)), some (.int (nI n)), some (.int (nI q)), some (.int (nI (mpos S n))), some (.int (nI (mpos S q))), some (.int (xz (mdx G (mpos S n) (mpos S q)))), some (.int (xz (mdy G (mpos S n) (mpos S q)))), some (.int (-1)), none, none, none, none]) dX10_hunt_123 (by decide) rfl ?_
    exact n_hunt125 hW hG hs hS hw hn hq hkn hkq ep hd (o1 := none) (by rw [mside, if_pos h100]) (fun k z => by cases z) h

set_option maxHeartbeats 4000000 in
set_option maxRecDepth 100000 in
theorem n_hunt {G : xG} {S : xS} {M : xM} {s : Nat} {Q : Option Value → xM → Prop} (hW : wG G) (hG : MG G M) (hs : s ≤ 56000) (hS : RM G S M s) (hw : wS G S) {n : Nat} (hn : n < gT G) (hkn : gkind G n ≤ 2) (hnP : gP G ≤ n) (h : ∀ M2, Fm s M M2 → RM G (mhunt1 G S n).2 M2 s → Q (some (.int (xb (mhunt1 G S n).1))) M2) : WP shM mX10_hunt 0 [some (.ref 0), some (.int (nI s)), some (.int (nI n)), none, none, none, none, none, none, none, none, none, none] [] M Q := by
  obtain ⟨b1, b2, b3, b4, b5, b6, b7, b8, b9, wmap, wlink, wk0, wk1, b10, b11, wword⟩ := id hW
  refine xi_aload_n dX10_hunt_0 rfl ?_
  refine xi_iload_n dX10_hunt_1 rfl ?_
  refine xi_iload_n dX10_hunt_2 rfl ?_
  refine xi_callV [.int (nI s), .int (nI n)] [] dX10_hunt_3 zX10_prey mlX10_217 mm0 rfl rfl rfl rfl rfl (Nat.le_of_ble_eq_true rfl) (Nat.le_of_ble_eq_true rfl) ⟨by decide, by decide⟩ ?_
  refine n_prey hW hG hs hS hw (n := n) (by omega) (by omega) (by omega) ?_
  show WP _ _ 6 _ [.int (xo (mprey G S n))] _ _
  generalize eo3 : mprey G S n = o3
  refine xi_istore_n (lv' := [some (.ref 0), some (.int (nI s)), some (.int (nI n)), some (.int (xo o3)), none, none, none, none, none, none, none, none, none]) dX10_hunt_6 (by decide) rfl ?_
  refine xi_iload_n dX10_hunt_7 rfl ?_
  refine xo_if_ge o3 13 dX10_hunt_8 (by decide) rfl (fun q z => by have := mprey_lt (eo3.trans z); omega) (fun q h8 => ?_) (fun h8 => ?_)
  · subst h8
    have hq := mprey_lt eo3
    have hpn := mpos_at hW hw hn hkn
    have hkq := wk0 q hq
    have hpq := mpos_P hW hw hq
    have bx := mdx_bd hW (mpos S n) (mpos S q)
    have by_ := mdy_bd hW hpn.2 hpq.2
    have hdd : mdist G S n q < 100 := by unfold mdist; omega
    refine xi_aload_n dX10_hunt_13 rfl ?_
    refine xi_getR dX10_hunt_14 fgX10_39 mm0 rfl ?_
    refine xi_iload_n dX10_hunt_17 rfl ?_
    refine xi_bipush (v := 6) dX10_hunt_18 (by decide) ?_
    refine xi_iload_n dX10_hunt_20 rfl ?_
    refine xe_imul dX10_hunt_21 (v := nI (6 * n)) (pk_mul 6 n) ?_
    refine xe_iadd dX10_hunt_22 (v := nI (s + (6 * n))) (nI_add s (6 * n)) ?_
    refine xi_iconst (v := 0) dX10_hunt_23 rfl ?_
    refine xe_iadd dX10_hunt_24 (v := nI (s + (6 * n) + 0)) (nI_add (s + (6 * n)) 0) ?_
    refine xe_iald (v := nI (mpos S n)) (s + (6 * n) + 0) dX10_hunt_25 mm5 (by decide) rfl (by omega) ((rmC hS (by omega)).trans hpn.1) ?_
    refine xi_istore (lv' := [some (.ref 0), some (.int (nI s)), some (.int (nI n)), some (.int (xo (some q))), some (.int (nI (mpos S n))), none, none, none, none, none, none, none, none]) dX10_hunt_26 (by decide) rfl ?_
    refine xat 28 rfl ?_
    refine xi_aload_n dX10_hunt_28 rfl ?_
    refine xi_getR dX10_hunt_29 fgX10_39 mm0 rfl ?_
    refine xi_iload_n dX10_hunt_32 rfl ?_
    refine xi_bipush (v := 6) dX10_hunt_33 (by decide) ?_
    refine xi_iload_n dX10_hunt_35 rfl ?_
    refine xe_imul dX10_hunt_36 (v := nI (6 * q)) (pk_mul 6 q) ?_
    refine xe_iadd dX10_hunt_37 (v := nI (s + (6 * q))) (nI_add s (6 * q)) ?_
    refine xi_iconst (v := 0) dX10_hunt_38 rfl ?_
    refine xe_iadd dX10_hunt_39 (v := nI (s + (6 * q) + 0)) (nI_add (s + (6 * q)) 0) ?_
    refine xe_iald (v := nI (mpos S q)) (s + (6 * q) + 0) dX10_hunt_40 mm5 (by decide) rfl (by omega) ((rmC hS (by omega)).trans hpq.1) ?_
    refine xi_istore (lv' := [some (.ref 0), some (.int (nI s)), some (.int (nI n)), some (.int (xo (some q))), some (.int (nI (mpos S n))), some (.int (nI (mpos S q))), none, none, none, none, none, none, none]) dX10_hunt_41 (by decide) rfl ?_
    refine xi_aload_n dX10_hunt_43 rfl ?_
    refine xat 44 rfl ?_
    refine xi_iload dX10_hunt_44 rfl ?_
    refine xi_iload dX10_hunt_46 rfl ?_
    refine xi_callV [.int (nI (mpos S n)), .int (nI (mpos S q))] [] dX10_hunt_48 zX10_far mlX10_214 mm0 rfl rfl rfl rfl rfl (Nat.le_of_ble_eq_true rfl) (Nat.le_of_ble_eq_true rfl) ⟨by decide, by decide⟩ ?_
    refine n_far hW hG (a := mpos S n) (b := mpos S q) (by omega) (by omega) ?_
    show WP _ _ 51 _ [.int (nI (mdist G S n q))] _ _
    refine xi_iconst (v := 1) dX10_hunt_51 rfl ?_
    refine xn_icmp_ne (mdist G S n q) 1 64 dX10_hunt_52 (by decide) rfl rfl (by omega) (by omega) (fun h52 => ?_) (fun h52 => ?_)
    · skip
      exact n_hunt64 hW hG hs hS hw hn (by omega) hkn (by omega) eo3 h52 h
    · skip
      refine xi_aload_n dX10_hunt_55 rfl ?_
      refine xi_iload_n dX10_hunt_56 rfl ?_
      refine xi_iload_n dX10_hunt_57 rfl ?_
      refine xi_iconst (v := 1) dX10_hunt_58 rfl ?_
      refine xi_callV [.int (nI s), .int (xo (some q)), .int 1] [] dX10_hunt_59 zX10_lose mlX10_188 mm0 rfl rfl rfl rfl rfl (Nat.le_of_ble_eq_true rfl) (Nat.le_of_ble_eq_true rfl) ⟨by decide, by decide⟩ ?_
      refine n_lose hW hG hs hS hw (n := q) (l := 1) (by omega) (by omega) (fun M1 hF1 hS1 => ?_)
      have hG1 : MG G M1 := MG.fm hG hF1
      have hw1 : wS G (mhurt G S q 1) := wS_hurt hw (by omega)
      show WP _ _ 62 _ [] _ _
      refine xi_iconst (v := 1) dX10_hunt_62 rfl ?_
      refine xi_zret (v := 1) dX10_hunt_63 rfl (by decide) ?_
      have e : mhunt1 G S n = (true, (mhurt G S q 1)) := by
        unfold mhunt1
        rw [eo3]
        exact if_pos h52
      rw [e] at h
      exact h M1 hF1 hS1
  · subst h8
    refine xi_iconst (v := 0) dX10_hunt_11 rfl ?_
    refine xi_zret (v := 0) dX10_hunt_12 rfl (by decide) ?_
    have e : mhunt1 G S n = (false, S) := by unfold mhunt1; rw [eo3]
    rw [e] at h
    exact h M Fm.rf hS

