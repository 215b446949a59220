def mFn (G : xG) (S : xS) (n : Nat) : Int32 := if n < gP G then sF S n else 0
def mRn (G : xG) (S : xS) (n : Nat) : Int32 := if n < gP G then nI (sR S n) else 0
theorem rmFn {G : xG} {S : xS} {M : xM} {s : Nat} (h : RM G S M s) {n : Nat} (hn : n < gT G) : M.2.1 5 (s + 6 * n + 2) = mFn G S n := by
  unfold mFn
  split
  · rename_i q; exact rmF h q
  · exact (rmZ h (by omega) hn).1
theorem rmRn {G : xG} {S : xS} {M : xM} {s : Nat} (h : RM G S M s) {n : Nat} (hn : n < gT G) : M.2.1 5 (s + 6 * n + 3) = mRn G S n := by
  unfold mRn
  split
  · rename_i q; exact rmR h q
  · exact (rmZ h (by omega) hn).2.1
theorem mdS_m {G : xG} {S : xS} {n : Nat} {d : Int32} : mdS G S n d = 31 * (31 * (31 * (31 * (31 * (31 * d + sC S n) + nI (sL S n)) + mFn G S n) + mRn G S n) + xo (mHn G S n) + 1) + xo (sB S n) + 1 := by
  unfold mdS mFn mRn mHn
  split
  · rw [Int32.add_assoc _ (xo (sH S n)) 1]
  · rw [Int32.add_assoc _ (xo none) 1]; rfl
theorem mspot_r {G : xG} {S : xS} {p k : Nat} (hp : p < gP G) (hl : 0 < sL S p) : msee G S (mpos S p) k (mrad G S p) = mspot G S p k := by
  unfold mspot mrad
  simp [hp, hl]
set_option maxHeartbeats 4000000 in
set_option maxRecDepth 100000 in
theorem n_mapTold {G : xG} {S : xS} {M : xM} {s : Nat} {Q : Option Value → xM → Prop} (hW : wG G) (hG : MG G M) (hs : s ≤ 56000) (hS : RM G S M s) {k : Nat} (hk : k < gN G) (h : Q (some (.int (nI (mlook G S k)))) M) : WP shM mX10_mapTold 0 [some (.ref 0), some (.int (nI s)), some (.int (nI k))] [] M Q := by
  obtain ⟨b1, b2, b3, b4, b5, b6, b7, b8, b9, wmap, wlink, wk0, wk1, b10, b11, wword⟩ := id hW
  refine xi_aload_n dX10_mapTold_0 rfl ?_
  refine xi_getR dX10_mapTold_1 fgX10_19 mm0 rfl ?_
  refine xi_iload_n dX10_mapTold_4 rfl ?_
  have q1 := wmap k (by omega)
  refine xe_iald (v := nI (gmap G k)) k dX10_mapTold_5 mm1 (by decide) rfl (by omega) (mg_map hG (by omega)) ?_
  refine xi_iconst (v := 2) dX10_mapTold_6 rfl ?_
  refine xn_icmp_ne (gmap G k) 2 23 dX10_mapTold_7 (by decide) rfl rfl (by omega) (by omega) (fun h7 => ?_) (fun h7 => ?_)
  · skip
    refine xi_aload_n dX10_mapTold_23 rfl ?_
    refine xi_getR dX10_mapTold_24 fgX10_19 mm0 rfl ?_
    refine xi_iload_n dX10_mapTold_27 rfl ?_
    have q2 := wmap k (by omega)
    refine xe_iald (v := nI (gmap G k)) k dX10_mapTold_28 mm1 (by decide) rfl (by omega) (mg_map hG (by omega)) ?_
    refine xi_iret (v := nI (gmap G k)) dX10_mapTold_29 rfl ?_
    have e : mlook G S k = gmap G k := by
      unfold mlook
      exact if_neg (fun q => h7 q.1)
    rw [e] at h
    exact h
  · skip
    refine xi_aload_n dX10_mapTold_10 rfl ?_
    refine xi_iload_n dX10_mapTold_11 rfl ?_
    refine xi_iload_n dX10_mapTold_12 rfl ?_
    refine xi_callV [.int (nI s), .int (nI k)] [] dX10_mapTold_13 zX10_isShut mlX10_165 mm0 rfl rfl rfl rfl rfl (Nat.le_of_ble_eq_true rfl) (Nat.le_of_ble_eq_true rfl) ⟨by decide, by decide⟩ ?_
    refine n_shut hW hG hs hS (k := k) (by omega) ?_
    show WP _ _ 16 _ [.int (xb (mshut G S k))] _ _
    refine xb_if_ne (mshut G S k) 23 dX10_mapTold_16 (by decide) rfl (fun h16 => ?_) (fun h16 => ?_)
    · skip
      refine xi_aload_n dX10_mapTold_23 rfl ?_
      refine xi_getR dX10_mapTold_24 fgX10_19 mm0 rfl ?_
      refine xi_iload_n dX10_mapTold_27 rfl ?_
      have q3 := wmap k (by omega)
      refine xe_iald (v := nI (gmap G k)) k dX10_mapTold_28 mm1 (by decide) rfl (by omega) (mg_map hG (by omega)) ?_
      refine xi_iret (v := nI (gmap G k)) dX10_mapTold_29 rfl ?_
      have e : mlook G S k = gmap G k := by
        unfold mlook
        have h16b : mshut G S k = true := h16; simp [mshut, h7] at h16b; exact if_neg (fun q => q.2 h16b)
      rw [e] at h
      exact h
    · skip
      refine xi_iconst (v := 4) dX10_mapTold_19 rfl ?_
      refine xi_goto 29 dX10_mapTold_20 (by decide) ?_
      refine xi_iret (v := 4) dX10_mapTold_29 rfl ?_
      have e : mlook G S k = 4 := by
        unfold mlook
        have h16b : mshut G S k = false := h16; simp [mshut, h7] at h16b; exact if_pos ⟨h7, h16b⟩
      rw [e] at h
      exact h

set_option maxHeartbeats 4000000 in
set_option maxRecDepth 100000 in
theorem n_isTold {G : xG} {S : xS} {M : xM} {s : Nat} {Q : Option Value → xM → Prop} (hW : wG G) (hG : MG G M) (hs : s ≤ 56000) (hS : RM G S M s) (hw : wS G S) {n k : Nat} (hn : n < gT G) (hk : k < gN G) (h : Q (some (.int (xb (decide (¬ gkind G n = 4) && mat G S n k)))) M) : WP shM mX10_isTold 0 [some (.ref 0), some (.int (nI s)), some (.int (nI n)), some (.int (nI k))] [] M Q := by
  obtain ⟨b1, b2, b3, b4, b5, b6, b7, b8, b9, wmap, wlink, wk0, wk1, b10, b11, wword⟩ := id hW
  refine xi_aload_n dX10_isTold_0 rfl ?_
  refine xi_getR dX10_isTold_1 fgX10_39 mm0 rfl ?_
  refine xi_iload_n dX10_isTold_4 rfl ?_
  refine xi_bipush (v := 6) dX10_isTold_5 (by decide) ?_
  refine xi_iload_n dX10_isTold_7 rfl ?_
  refine xe_imul dX10_isTold_8 (v := nI (6 * n)) (pk_mul 6 n) ?_
  refine xe_iadd dX10_isTold_9 (v := nI (s + (6 * n))) (nI_add s (6 * n)) ?_
  refine xi_iconst (v := 0) dX10_isTold_10 rfl ?_
  refine xe_iadd dX10_isTold_11 (v := nI (s + (6 * n) + 0)) (nI_add (s + (6 * n)) 0) ?_
  refine xe_iald (v := sC S n) (s + (6 * n) + 0) dX10_isTold_12 mm5 (by decide) rfl (by omega) (rmC hS (by omega)) ?_
  refine xi_iload_n dX10_isTold_13 rfl ?_
  refine xat 14 rfl ?_
  refine xi_icmp_ne 49 dX10_isTold_14 (by decide) (fun h14 => ?_) (fun h14 => ?_)
  · skip
    refine xi_iconst (v := 0) dX10_isTold_49 rfl ?_
    refine xi_zret (v := 0) dX10_isTold_50 rfl (by decide) ?_
    rw [xb_f (show (decide (¬ gkind G n = 4) && mat G S n k) = false from by
      simp [mat, h14]
      )] at h
    exact h
  · skip
    refine xi_aload_n dX10_isTold_17 rfl ?_
    refine xi_getR dX10_isTold_18 fgX10_29 mm0 rfl ?_
    refine xi_iload_n dX10_isTold_21 rfl ?_
    have q2 : gkind G n ≤ 7 := hW.kind (by omega)
    refine xe_iald (v := nI (gkind G n)) n dX10_isTold_22 mm4 (by decide) rfl (by omega) (mg_kind hG (by omega)) ?_
    refine xi_iconst (v := 4) dX10_isTold_23 rfl ?_
    refine xn_icmp_eq (gkind G n) 4 49 dX10_isTold_24 (by decide) rfl rfl (by omega) (by omega) (fun h24 => ?_) (fun h24 => ?_)
    · skip
      refine xi_iconst (v := 0) dX10_isTold_49 rfl ?_
      refine xi_zret (v := 0) dX10_isTold_50 rfl (by decide) ?_
      rw [xb_f (show (decide (¬ gkind G n = 4) && mat G S n k) = false from by
        simp [h24]
        )] at h
      exact h
    · skip
      refine xi_aload_n dX10_isTold_27 rfl ?_
      refine xi_iload_n dX10_isTold_28 rfl ?_
      refine xi_iload_n dX10_isTold_29 rfl ?_
      refine xi_callV [.int (nI s), .int (nI n)] [] dX10_isTold_30 zX10_stands mlX10_161 mm0 rfl rfl rfl rfl rfl (Nat.le_of_ble_eq_true rfl) (Nat.le_of_ble_eq_true rfl) ⟨by decide, by decide⟩ ?_
      refine n_stands hW hG hs hS hw (n := n) (by omega) ?_
      show WP _ _ 33 _ [.int (xb (decide (0 < sL S n)))] _ _
      refine xb_if_ne (decide (0 < sL S n)) 45 dX10_isTold_33 (by decide) rfl (fun h33 => ?_) (fun h33 => ?_)
      · skip
        refine xi_iconst (v := 1) dX10_isTold_45 rfl ?_
        refine xi_goto 50 dX10_isTold_46 (by decide) ?_
        refine xi_zret (v := 1) dX10_isTold_50 rfl (by decide) ?_
        rw [xb_t (show (decide (¬ gkind G n = 4) && mat G S n k) = true from by
          have z : 0 < sL S n := by simpa using h33
          simp [mat, h14, h24, z]
          )] at h
        exact h
      · skip
        refine xi_aload_n dX10_isTold_36 rfl ?_
        refine xi_iload_n dX10_isTold_37 rfl ?_
        refine xi_iload_n dX10_isTold_38 rfl ?_
        refine xi_callV [.int (nI s), .int (nI n)] [] dX10_isTold_39 zX10_lies mlX10_185 mm0 rfl rfl rfl rfl rfl (Nat.le_of_ble_eq_true rfl) (Nat.le_of_ble_eq_true rfl) ⟨by decide, by decide⟩ ?_
        refine n_lies hW hG hs hS (n := n) (by omega) ?_
        show WP _ _ 42 _ [.int (xb (decide (2 < gkind G n) && decide (0 ≤ sC S n)))] _ _
        refine xb_if_eq (decide (2 < gkind G n) && decide (0 ≤ sC S n)) 49 dX10_isTold_42 (by decide) rfl (fun h42 => ?_) (fun h42 => ?_)
        · skip
          refine xi_iconst (v := 0) dX10_isTold_49 rfl ?_
          refine xi_zret (v := 0) dX10_isTold_50 rfl (by decide) ?_
          rw [xb_f (show (decide (¬ gkind G n = 4) && mat G S n k) = false from by
            have z : sL S n = 0 := by simpa using h33
            have z2 : ¬ 2 < gkind G n := fun q => by have y := h42; rw [h14] at y; simp [q, nI_nn (show k < 2 ^ 31 by omega)] at y
            simp [mat, z, z2]
            )] at h
          exact h
        · skip
          refine xi_iconst (v := 1) dX10_isTold_45 rfl ?_
          refine xi_goto 50 dX10_isTold_46 (by decide) ?_
          refine xi_zret (v := 1) dX10_isTold_50 rfl (by decide) ?_
          rw [xb_t (show (decide (¬ gkind G n = 4) && mat G S n k) = true from by
            have z := h42; simp at z; have z3 : 2 < gkind G n := z.1
            simp [mat, h14, h24, z3]
            )] at h
          exact h

set_option maxHeartbeats 4000000 in
set_option maxRecDepth 100000 in
theorem nl_digP {G : xG} {S : xS} {M : xM} {s : Nat} {Q : Option Value → xM → Prop} (hW : wG G) (hG : MG G M) (hs : s ≤ 56000) (hS : RM G S M s) (hw : wS G S)  : ∀ (f n : Nat) (d : Int32), n + f = gP G → Q (some (.int (mdP S n f d))) M → WP shM mX10_digestOf 156 [some (.ref 0), some (.int (nI s)), some (.int d), some (.int (nI n)), none] [] M Q := by
  obtain ⟨b1, b2, b3, b4, b5, b6, b7, b8, b9, wmap, wlink, wk0, wk1, b10, b11, wword⟩ := id hW
  intro f
  induction f with
  | zero =>
    intro n d hf h
    refine xi_iload_n dX10_digestOf_156 rfl ?_
    refine xi_aload_n dX10_digestOf_157 rfl ?_
    refine xe_getI (v := nI (gP G)) dX10_digestOf_158 fgX10_16 mm0 rfl (mg_P hG) ?_
    refine xn_icmp_ge n (gP G) 204 dX10_digestOf_161 (by decide) rfl rfl (by omega) (by omega) (fun h161 => ?_) (fun h161 => ?_)
    · skip
      refine xi_iload_n dX10_digestOf_204 rfl ?_
      refine xi_iret (v := d) dX10_digestOf_205 rfl ?_
      exact h
    · omega
  | succ f ih =>
    intro n d hf h
    refine xi_iload_n dX10_digestOf_156 rfl ?_
    refine xi_aload_n dX10_digestOf_157 rfl ?_
    refine xe_getI (v := nI (gP G)) dX10_digestOf_158 fgX10_16 mm0 rfl (mg_P hG) ?_
    refine xn_icmp_ge n (gP G) 204 dX10_digestOf_161 (by decide) rfl rfl (by omega) (by omega) (fun h161 => ?_) (fun h161 => ?_)
    · omega
    · skip
      refine xi_bipush (v := 31) dX10_digestOf_164 (by decide) ?_
      refine xi_iload_n dX10_digestOf_166 rfl ?_
      refine xi_imul dX10_digestOf_167 ?_
      refine xi_aload_n dX10_digestOf_168 rfl ?_
      refine xi_getR dX10_digestOf_169 fgX10_39 mm0 rfl ?_
      refine xi_iload_n dX10_digestOf_172 rfl ?_
      refine xi_bipush (v := 104) dX10_digestOf_173 (by decide) ?_
      refine xe_iadd dX10_digestOf_175 (v := nI (s + 104)) (nI_add s 104) ?_
      refine xi_iload_n dX10_digestOf_176 rfl ?_
      refine xe_iadd dX10_digestOf_177 (v := nI (s + 104 + n)) (nI_add (s + 104) n) ?_
      refine xe_iald (v := sP S n) (s + 104 + n) dX10_digestOf_178 mm5 (by decide) rfl (by omega) (rmP hS (by omega)) ?_
      refine xat 179 rfl ?_
      refine xi_iadd dX10_digestOf_179 ?_
      refine xi_istore_n (lv' := [some (.ref 0), some (.int (nI s)), some (.int ((31 * d) + sP S n)), some (.int (nI n)), none]) dX10_digestOf_180 (by decide) rfl ?_
      refine xi_bipush (v := 31) dX10_digestOf_181 (by decide) ?_
      refine xi_iload_n dX10_digestOf_183 rfl ?_
      refine xi_imul dX10_digestOf_184 ?_
      refine xi_aload_n dX10_digestOf_185 rfl ?_
      refine xi_getR dX10_digestOf_186 fgX10_39 mm0 rfl ?_
      refine xi_iload_n dX10_digestOf_189 rfl ?_
      refine xi_bipush (v := 108) dX10_digestOf_190 (by decide) ?_
      refine xe_iadd dX10_digestOf_192 (v := nI (s + 108)) (nI_add s 108) ?_
      refine xi_iload_n dX10_digestOf_193 rfl ?_
      refine xe_iadd dX10_digestOf_194 (v := nI (s + 108 + n)) (nI_add (s + 108) n) ?_
      refine xat 195 rfl ?_
      refine xe_iald (v := sK S n) (s + 108 + n) dX10_digestOf_195 mm5 (by decide) rfl (by omega) (rmK hS (by omega)) ?_
      refine xi_iadd dX10_digestOf_196 ?_
      refine xi_istore_n (lv' := [some (.ref 0), some (.int (nI s)), some (.int ((31 * ((31 * d) + sP S n)) + sK S n)), some (.int (nI n)), none]) dX10_digestOf_197 (by decide) rfl ?_
      refine xi_iinc (v := nI (n + 1)) (lv' := [some (.ref 0), some (.int (nI s)), some (.int ((31 * ((31 * d) + sP S n)) + sK S n)), some (.int (nI (n + 1))), none]) dX10_digestOf_198 rfl (xinc n) (by decide) rfl ?_
      refine xi_goto 156 dX10_digestOf_201 (by decide) ?_
      exact ih (n + 1) _ (by omega) h

set_option maxHeartbeats 4000000 in
set_option maxRecDepth 100000 in
theorem nl_digD {G : xG} {S : xS} {M : xM} {s : Nat} {Q : Option Value → xM → Prop} (hW : wG G) (hG : MG G M) (hs : s ≤ 56000) (hS : RM G S M s) (hw : wS G S)  : ∀ (f n : Nat) (d : Int32), n + f = gD G → Q (some (.int (mdP S 0 (gP G) (mdD S n f d)))) M → WP shM mX10_digestOf 123 [some (.ref 0), some (.int (nI s)), some (.int d), some (.int (nI n)), none] [] M Q := by
  obtain ⟨b1, b2, b3, b4, b5, b6, b7, b8, b9, wmap, wlink, wk0, wk1, b10, b11, wword⟩ := id hW
  intro f
  induction f with
  | zero =>
    intro n d hf h
    refine xi_iload_n dX10_digestOf_123 rfl ?_
    refine xi_aload_n dX10_digestOf_124 rfl ?_
    refine xe_getI (v := nI (gD G)) dX10_digestOf_125 fgX10_104 mm0 rfl (mg_D hG) ?_
    refine xn_icmp_ge n (gD G) 154 dX10_digestOf_128 (by decide) rfl rfl (by omega) (by omega) (fun h128 => ?_) (fun h128 => ?_)
    · skip
      refine xi_iconst (v := 0) dX10_digestOf_154 rfl ?_
      refine xi_istore_n (lv' := [some (.ref 0), some (.int (nI s)), some (.int d), some (.int 0), none]) dX10_digestOf_155 (by decide) rfl ?_
      exact nl_digP hW hG hs hS hw (gP G) 0 d (by omega) h
    · omega
  | succ f ih =>
    intro n d hf h
    refine xi_iload_n dX10_digestOf_123 rfl ?_
    refine xi_aload_n dX10_digestOf_124 rfl ?_
    refine xe_getI (v := nI (gD G)) dX10_digestOf_125 fgX10_104 mm0 rfl (mg_D hG) ?_
    refine xn_icmp_ge n (gD G) 154 dX10_digestOf_128 (by decide) rfl rfl (by omega) (by omega) (fun h128 => ?_) (fun h128 => ?_)
    · omega
    · skip
      refine xi_bipush (v := 31) dX10_digestOf_131 (by decide) ?_
      refine xi_iload_n dX10_digestOf_133 rfl ?_
      refine xi_imul dX10_digestOf_134 ?_
      refine xi_aload_n dX10_digestOf_135 rfl ?_
      refine xi_getR dX10_digestOf_136 fgX10_39 mm0 rfl ?_
      refine xi_iload_n dX10_digestOf_139 rfl ?_
      refine xi_bipush (v := 96) dX10_digestOf_140 (by decide) ?_
      refine xe_iadd dX10_digestOf_142 (v := nI (s + 96)) (nI_add s 96) ?_
      refine xi_iload_n dX10_digestOf_143 rfl ?_
      refine xe_iadd dX10_digestOf_144 (v := nI (s + 96 + n)) (nI_add (s + 96) n) ?_
      refine xe_iald (v := sO S n) (s + 96 + n) dX10_digestOf_145 mm5 (by decide) rfl (by omega) (rmO hS (by omega)) ?_
      refine xat 146 rfl ?_
      refine xi_iadd dX10_digestOf_146 ?_
      refine xi_istore_n (lv' := [some (.ref 0), some (.int (nI s)), some (.int ((31 * d) + sO S n)), some (.int (nI n)), none]) dX10_digestOf_147 (by decide) rfl ?_
      refine xi_iinc (v := nI (n + 1)) (lv' := [some (.ref 0), some (.int (nI s)), some (.int ((31 * d) + sO S n)), some (.int (nI (n + 1))), none]) dX10_digestOf_148 rfl (xinc n) (by decide) rfl ?_
      refine xi_goto 123 dX10_digestOf_151 (by decide) ?_
      exact ih (n + 1) _ (by omega) h

set_option maxHeartbeats 4000000 in
set_option maxRecDepth 100000 in
theorem nl_digT {G : xG} {S : xS} {M : xM} {s : Nat} {Q : Option Value → xM → Prop} (hW : wG G) (hG : MG G M) (hs : s ≤ 56000) (hS : RM G S M s) (hw : wS G S)  : ∀ (f n : Nat) (d : Int32), n + f = gT G → Q (some (.int (mdP S 0 (gP G) (mdD S 0 (gD G) (mdT G S n f d))))) M → WP shM mX10_digestOf 5 [some (.ref 0), some (.int (nI s)), some (.int d), some (.int (nI n)), none] [] M Q := by
  obtain ⟨b1, b2, b3, b4, b5, b6, b7, b8, b9, wmap, wlink, wk0, wk1, b10, b11, wword⟩ := id hW
  intro f
  induction f with
  | zero =>
    intro n d hf h
    refine xi_iload_n dX10_digestOf_5 rfl ?_
    refine xi_aload_n dX10_digestOf_6 rfl ?_
    refine xe_getI (v := nI (gT G)) dX10_digestOf_7 fgX10_107 mm0 rfl (mg_T hG) ?_
    refine xn_icmp_ge n (gT G) 121 dX10_digestOf_10 (by decide) rfl rfl (by omega) (by omega) (fun h10 => ?_) (fun h10 => ?_)
    · skip
      refine xi_iconst (v := 0) dX10_digestOf_121 rfl ?_
      refine xi_istore_n (lv' := [some (.ref 0), some (.int (nI s)), some (.int d), some (.int 0), none]) dX10_digestOf_122 (by decide) rfl ?_
      exact nl_digD hW hG hs hS hw (gD G) 0 d (by omega) h
    · omega
  | succ f ih =>
    intro n d hf h
    refine xi_iload_n dX10_digestOf_5 rfl ?_
    refine xi_aload_n dX10_digestOf_6 rfl ?_
    refine xe_getI (v := nI (gT G)) dX10_digestOf_7 fgX10_107 mm0 rfl (mg_T hG) ?_
    refine xn_icmp_ge n (gT G) 121 dX10_digestOf_10 (by decide) rfl rfl (by omega) (by omega) (fun h10 => ?_) (fun h10 => ?_)
    · omega
    · skip
      refine xi_iload_n dX10_digestOf_13 rfl ?_
      refine xi_bipush (v := 6) dX10_digestOf_14 (by decide) ?_
      refine xi_iload_n dX10_digestOf_16 rfl ?_
      refine xe_imul dX10_digestOf_17 (v := nI (6 * n)) (pk_mul 6 n) ?_
      refine xe_iadd dX10_digestOf_18 (v := nI (s + (6 * n))) (nI_add s (6 * n)) ?_
      refine xi_istore (lv' := [some (.ref 0), some (.int (nI s)), some (.int d), some (.int (nI n)), some (.int (nI (s + (6 * n))))]) dX10_digestOf_19 (by decide) rfl ?_
      refine xi_bipush (v := 31) dX10_digestOf_21 (by decide) ?_
      refine xi_iload_n dX10_digestOf_23 rfl ?_
      refine xi_imul dX10_digestOf_24 ?_
      refine xi_aload_n dX10_digestOf_25 rfl ?_
      refine xi_getR dX10_digestOf_26 fgX10_39 mm0 rfl ?_
      refine xat 29 rfl ?_
      refine xi_iload dX10_digestOf_29 rfl ?_
      refine xi_iconst (v := 0) dX10_digestOf_31 rfl ?_
      refine xe_iadd dX10_digestOf_32 (v := nI (s + (6 * n) + 0)) (nI_add (s + (6 * n)) 0) ?_
      refine xe_iald (v := sC S n) (s + (6 * n) + 0) dX10_digestOf_33 mm5 (by decide) rfl (by omega) (rmC hS (by omega)) ?_
      refine xi_iadd dX10_digestOf_34 ?_
      refine xi_istore_n (lv' := [some (.ref 0), some (.int (nI s)), some (.int ((31 * d) + sC S n)), some (.int (nI n)), some (.int (nI (s + (6 * n))))]) dX10_digestOf_35 (by decide) rfl ?_
      refine xi_bipush (v := 31) dX10_digestOf_36 (by decide) ?_
      refine xi_iload_n dX10_digestOf_38 rfl ?_
      refine xi_imul dX10_digestOf_39 ?_
      refine xi_aload_n dX10_digestOf_40 rfl ?_
      refine xi_getR dX10_digestOf_41 fgX10_39 mm0 rfl ?_
      refine xi_iload dX10_digestOf_44 rfl ?_
      refine xat 46 rfl ?_
      refine xi_iconst (v := 1) dX10_digestOf_46 rfl ?_
      refine xe_iadd dX10_digestOf_47 (v := nI (s + (6 * n) + 1)) (nI_add (s + (6 * n)) 1) ?_
      refine xe_iald (v := nI (sL S n)) (s + (6 * n) + 1) dX10_digestOf_48 mm5 (by decide) rfl (by omega) (rmL hS (by omega)) ?_
      refine xi_iadd dX10_digestOf_49 ?_
      refine xi_istore_n (lv' := [some (.ref 0), some (.int (nI s)), some (.int ((31 * ((31 * d) + sC S n)) + nI (sL S n))), some (.int (nI n)), some (.int (nI (s + (6 * n))))]) dX10_digestOf_50 (by decide) rfl ?_
      refine xi_bipush (v := 31) dX10_digestOf_51 (by decide) ?_
      refine xi_iload_n dX10_digestOf_53 rfl ?_
      refine xi_imul dX10_digestOf_54 ?_
      refine xi_aload_n dX10_digestOf_55 rfl ?_
      refine xi_getR dX10_digestOf_56 fgX10_39 mm0 rfl ?_
      refine xi_iload dX10_digestOf_59 rfl ?_
      refine xi_iconst (v := 2) dX10_digestOf_61 rfl ?_
      refine xat 62 rfl ?_
      refine xe_iadd dX10_digestOf_62 (v := nI (s + (6 * n) + 2)) (nI_add (s + (6 * n)) 2) ?_
      refine xe_iald (v := mFn G S n) (s + (6 * n) + 2) dX10_digestOf_63 mm5 (by decide) rfl (by omega) (rmFn hS (by omega)) ?_
      refine xi_iadd dX10_digestOf_64 ?_
      refine xi_istore_n (lv' := [some (.ref 0), some (.int (nI s)), some (.int ((31 * ((31 * ((31 * d) + sC S n)) + nI (sL S n))) + mFn G S n)), some (.int (nI n)), some (.int (nI (s + (6 * n))))]) dX10_digestOf_65 (by decide) rfl ?_
      refine xi_bipush (v := 31) dX10_digestOf_66 (by decide) ?_
      refine xi_iload_n dX10_digestOf_68 rfl ?_
      refine xi_imul dX10_digestOf_69 ?_
      refine xi_aload_n dX10_digestOf_70 rfl ?_
      refine xi_getR dX10_digestOf_71 fgX10_39 mm0 rfl ?_
      refine xi_iload dX10_digestOf_74 rfl ?_
      refine xi_iconst (v := 3) dX10_digestOf_76 rfl ?_
      refine xe_iadd dX10_digestOf_77 (v := nI (s + (6 * n) + 3)) (nI_add (s + (6 * n)) 3) ?_
      refine xat 78 rfl ?_
      refine xe_iald (v := mRn G S n) (s + (6 * n) + 3) dX10_digestOf_78 mm5 (by decide) rfl (by omega) (rmRn hS (by omega)) ?_
      refine xi_iadd dX10_digestOf_79 ?_
      refine xi_istore_n (lv' := [some (.ref 0), some (.int (nI s)), some (.int ((31 * ((31 * ((31 * ((31 * d) + sC S n)) + nI (sL S n))) + mFn G S n)) + mRn G S n)), some (.int (nI n)), some (.int (nI (s + (6 * n))))]) dX10_digestOf_80 (by decide) rfl ?_
      refine xi_bipush (v := 31) dX10_digestOf_81 (by decide) ?_
      refine xi_iload_n dX10_digestOf_83 rfl ?_
      refine xi_imul dX10_digestOf_84 ?_
      refine xi_aload_n dX10_digestOf_85 rfl ?_
      refine xi_getR dX10_digestOf_86 fgX10_39 mm0 rfl ?_
      refine xi_iload dX10_digestOf_89 rfl ?_
      refine xi_iconst (v := 4) dX10_digestOf_91 rfl ?_
      refine xe_iadd dX10_digestOf_92 (v := nI (s + (6 * n) + 4)) (nI_add (s + (6 * n)) 4) ?_
      refine xe_iald (v := xo (mHn G S n)) (s + (6 * n) + 4) dX10_digestOf_93 mm5 (by decide) rfl (by omega) (rmHn hS (by omega)) ?_
      refine xat 94 rfl ?_
      refine xi_iadd dX10_digestOf_94 ?_
      refine xi_iconst (v := 1) dX10_digestOf_95 rfl ?_
      refine xi_iadd dX10_digestOf_96 ?_
      refine xi_istore_n (lv' := [some (.ref 0), some (.int (nI s)), some (.int (((31 * ((31 * ((31 * ((31 * ((31 * d) + sC S n)) + nI (sL S n))) + mFn G S n)) + mRn G S n)) + xo (mHn G S n)) + 1)), some (.int (nI n)), some (.int (nI (s + (6 * n))))]) dX10_digestOf_97 (by decide) rfl ?_
      refine xi_bipush (v := 31) dX10_digestOf_98 (by decide) ?_
      refine xi_iload_n dX10_digestOf_100 rfl ?_
      refine xi_imul dX10_digestOf_101 ?_
      refine xi_aload_n dX10_digestOf_102 rfl ?_
      refine xi_getR dX10_digestOf_103 fgX10_39 mm0 rfl ?_
      refine xi_iload dX10_digestOf_106 rfl ?_
      refine xi_iconst (v := 5) dX10_digestOf_108 rfl ?_
      refine xe_iadd dX10_digestOf_109 (v := nI (s + (6 * n) + 5)) (nI_add (s + (6 * n)) 5) ?_
      refine xat 110 rfl ?_
      refine xe_iald (v := xo (sB S n)) (s + (6 * n) + 5) dX10_digestOf_110 mm5 (by decide) rfl (by omega) (rmB hS (by omega)) ?_
      refine xi_iadd dX10_digestOf_111 ?_
      refine xi_iconst (v := 1) dX10_digestOf_112 rfl ?_
      refine xi_iadd dX10_digestOf_113 ?_
      refine xi_istore_n (lv' := [some (.ref 0), some (.int (nI s)), some (.int (((31 * (((31 * ((31 * ((31 * ((31 * ((31 * d) + sC S n)) + nI (sL S n))) + mFn G S n)) + mRn G S n)) + xo (mHn G S n)) + 1)) + xo (sB S n)) + 1)), some (.int (nI n)), some (.int (nI (s + (6 * n))))]) dX10_digestOf_114 (by decide) rfl ?_
      refine xi_iinc (v := nI (n + 1)) (lv' := [some (.ref 0), some (.int (nI s)), some (.int (((31 * (((31 * ((31 * ((31 * ((31 * ((31 * d) + sC S n)) + nI (sL S n))) + mFn G S n)) + mRn G S n)) + xo (mHn G S n)) + 1)) + xo (sB S n)) + 1)), some (.int (nI (n + 1))), some (.int (nI (s + (6 * n))))]) dX10_digestOf_115 rfl (xinc n) (by decide) rfl ?_
      refine xi_goto 5 dX10_digestOf_118 (by decide) ?_
      refine xi_drop [true, true, true, true, false] rfl ?_
      rw [mdT, mdS_m] at h
      exact ih (n + 1) _ (by omega) h

set_option maxHeartbeats 4000000 in
set_option maxRecDepth 100000 in
theorem n_digest {G : xG} {S : xS} {M : xM} {s : Nat} {Q : Option Value → xM → Prop} (hW : wG G) (hG : MG G M) (hs : s ≤ 56000) (hS : RM G S M s) (hw : wS G S)  (h : Q (some (.int (mdig G S))) M) : WP shM mX10_digestOf 0 [some (.ref 0), some (.int (nI s)), none, none, none] [] M Q := by
  obtain ⟨b1, b2, b3, b4, b5, b6, b7, b8, b9, wmap, wlink, wk0, wk1, b10, b11, wword⟩ := id hW
  refine xi_bipush (v := 7) dX10_digestOf_0 (by decide) ?_
  refine xi_istore_n (lv' := [some (.ref 0), some (.int (nI s)), some (.int 7), none, none]) dX10_digestOf_2 (by decide) rfl ?_
  refine xi_iconst (v := 0) dX10_digestOf_3 rfl ?_
  refine xi_istore_n (lv' := [some (.ref 0), some (.int (nI s)), some (.int 7), some (.int 0), none]) dX10_digestOf_4 (by decide) rfl ?_
  exact nl_digT hW hG hs hS hw (gT G) 0 7 (by omega) h

set_option maxHeartbeats 4000000 in
set_option maxRecDepth 100000 in
theorem nl_letN {G : xG} {S : xS} {M : xM} {s : Nat} {Q : Option Value → xM → Prop} (hW : wG G) (hG : MG G M) (hs : s ≤ 56000) (hS : RM G S M s) (hw : wS G S) {p c : Nat} (hp : p < gP G) (hc : c < gN G) : ∀ (f n : Nat) (d : Int32), n + f = gT G → WP shM mX10_letterOf 146 [some (.ref 0), some (.int (nI s)), some (.int (nI p)), some (.int (nI (s + (6 * p)))), some (.int (maddL G S c n f d)), some (.int (nI c)), some (.int (nI (gT G)))] [] M Q → WP shM mX10_letterOf 79 [some (.ref 0), some (.int (nI s)), some (.int (nI p)), some (.int (nI (s + (6 * p)))), some (.int d), some (.int (nI c)), some (.int (nI n))] [] M Q := by
  obtain ⟨b1, b2, b3, b4, b5, b6, b7, b8, b9, wmap, wlink, wk0, wk1, b10, b11, wword⟩ := id hW
  intro f
  induction f with
  | zero =>
    intro n d hf h
    refine xi_iload dX10_letterOf_79 rfl ?_
    refine xi_aload_n dX10_letterOf_81 rfl ?_
    refine xe_getI (v := nI (gT G)) dX10_letterOf_82 fgX10_107 mm0 rfl (mg_T hG) ?_
    refine xn_icmp_ge n (gT G) 146 dX10_letterOf_85 (by decide) rfl rfl (by omega) (by omega) (fun h85 => ?_) (fun h85 => ?_)
    · skip
      have ei : n = gT G := by omega
      subst ei
      exact h
    · omega
  | succ f ih =>
    intro n d hf h
    refine xi_iload dX10_letterOf_79 rfl ?_
    refine xi_aload_n dX10_letterOf_81 rfl ?_
    refine xe_getI (v := nI (gT G)) dX10_letterOf_82 fgX10_107 mm0 rfl (mg_T hG) ?_
    refine xn_icmp_ge n (gT G) 146 dX10_letterOf_85 (by decide) rfl rfl (by omega) (by omega) (fun h85 => ?_) (fun h85 => ?_)
    · omega
    · skip
      refine xi_aload_n dX10_letterOf_88 rfl ?_
      refine xi_iload_n dX10_letterOf_89 rfl ?_
      refine xi_iload dX10_letterOf_90 rfl ?_
      refine xi_iload dX10_letterOf_92 rfl ?_
      refine xi_callV [.int (nI s), .int (nI n), .int (nI c)] [] dX10_letterOf_94 zX10_isTold mlX10_229 mm0 rfl rfl rfl rfl rfl (Nat.le_of_ble_eq_true rfl) (Nat.le_of_ble_eq_true rfl) ⟨by decide, by decide⟩ ?_
      refine n_isTold hW hG hs hS hw (n := n) (k := c) (by omega) (by omega) ?_
      show WP _ _ 97 _ [.int (xb (decide (¬ gkind G n = 4) && mat G S n c))] _ _
      refine xb_if_eq (decide (¬ gkind G n = 4) && mat G S n c) 140 dX10_letterOf_97 (by decide) rfl (fun h97 => ?_) (fun h97 => ?_)
      · skip
        refine xi_iinc (v := nI (n + 1)) (lv' := [some (.ref 0), some (.int (nI s)), some (.int (nI p)), some (.int (nI (s + (6 * p)))), some (.int d), some (.int (nI c)), some (.int (nI (n + 1)))]) dX10_letterOf_140 rfl (xinc n) (by decide) rfl ?_
        refine xi_goto 79 dX10_letterOf_143 (by decide) ?_
        rw [maddL, if_neg (fun q => by simp [q.1, q.2] at h97)] at h
        exact ih (n + 1) _ (by omega) h
      · skip
        refine xi_bipush (v := 31) dX10_letterOf_100 (by decide) ?_
        refine xi_iload dX10_letterOf_102 rfl ?_
        refine xi_imul dX10_letterOf_104 ?_
        refine xi_iload dX10_letterOf_105 rfl ?_
        refine xi_iadd dX10_letterOf_107 ?_
        refine xi_bipush (v := 32) dX10_letterOf_108 (by decide) ?_
        refine xi_aload_n dX10_letterOf_110 rfl ?_
        refine xi_getR dX10_letterOf_111 fgX10_29 mm0 rfl ?_
        refine xi_iload dX10_letterOf_114 rfl ?_
        have q1 : gkind G n ≤ 7 := hW.kind (by omega)
        refine xe_iald (v := nI (gkind G n)) n dX10_letterOf_116 mm4 (by decide) rfl (by omega) (mg_kind hG (by omega)) ?_
        refine xe_imul dX10_letterOf_117 (v := nI (32 * (gkind G n))) (pk_mul 32 (gkind G n)) ?_
        refine xat 118 rfl ?_
        refine xi_iadd dX10_letterOf_118 ?_
        refine xi_sipush (v := 512) dX10_letterOf_119 (by decide) ?_
        refine xi_aload_n dX10_letterOf_122 rfl ?_
        refine xi_getR dX10_letterOf_123 fgX10_39 mm0 rfl ?_
        refine xi_iload_n dX10_letterOf_126 rfl ?_
        refine xi_bipush (v := 6) dX10_letterOf_127 (by decide) ?_
        refine xi_iload dX10_letterOf_129 rfl ?_
        refine xe_imul dX10_letterOf_131 (v := nI (6 * n)) (pk_mul 6 n) ?_
        refine xe_iadd dX10_letterOf_132 (v := nI (s + (6 * n))) (nI_add s (6 * n)) ?_
        refine xi_iconst (v := 1) dX10_letterOf_133 rfl ?_
        refine xe_iadd dX10_letterOf_134 (v := nI (s + (6 * n) + 1)) (nI_add (s + (6 * n)) 1) ?_
        have q2 := (hw).2.1 n (by omega)
        refine xe_iald (v := nI (sL S n)) (s + (6 * n) + 1) dX10_letterOf_135 mm5 (by decide) rfl (by omega) (rmL hS (by omega)) ?_
        refine xat 136 rfl ?_
        refine xe_imul dX10_letterOf_136 (v := nI (512 * (sL S n))) (pk_mul 512 (sL S n)) ?_
        refine xi_iadd dX10_letterOf_137 ?_
        refine xi_istore (lv' := [some (.ref 0), some (.int (nI s)), some (.int (nI p)), some (.int (nI (s + (6 * p)))), some (.int ((((31 * d) + nI n) + nI (32 * (gkind G n))) + nI (512 * (sL S n)))), some (.int (nI c)), some (.int (nI n))]) dX10_letterOf_138 (by decide) rfl ?_
        refine xi_iinc (v := nI (n + 1)) (lv' := [some (.ref 0), some (.int (nI s)), some (.int (nI p)), some (.int (nI (s + (6 * p)))), some (.int ((((31 * d) + nI n) + nI (32 * (gkind G n))) + nI (512 * (sL S n)))), some (.int (nI c)), some (.int (nI (n + 1)))]) dX10_letterOf_140 rfl (xinc n) (by decide) rfl ?_
        refine xi_goto 79 dX10_letterOf_143 (by decide) ?_
        rw [maddL, if_pos (by simpa using h97)] at h
        exact ih (n + 1) _ (by omega) h

set_option maxHeartbeats 4000000 in
set_option maxRecDepth 100000 in
theorem nl_letC {G : xG} {S : xS} {M : xM} {s : Nat} {Q : Option Value → xM → Prop} (hW : wG G) (hG : MG G M) (hs : s ≤ 56000) (hS : RM G S M s) (hw : wS G S) {p : Nat} (hp : p < gP G) (hl : 0 < sL S p) : ∀ (f c : Nat) (d : Int32), c + f = gN G → Q (some (.int (31 * (31 * mletL G S p c f d + nI (sL S p) + nI (8 * sR S p) + 64 * (xo (sH S p) + 1)) + sK S p))) M → WP shM mX10_letterOf 26 [some (.ref 0), some (.int (nI s)), some (.int (nI p)), some (.int (nI (s + (6 * p)))), some (.int d), some (.int (nI c)), none] [] M Q := by
  obtain ⟨b1, b2, b3, b4, b5, b6, b7, b8, b9, wmap, wlink, wk0, wk1, b10, b11, wword⟩ := id hW
  have hmp := mpos_P hW hw hp
  have hkp := wk0 p hp
  intro f
  induction f with
  | zero =>
    intro c d hf h
    refine xi_iload dX10_letterOf_26 rfl ?_
    refine xi_aload_n dX10_letterOf_28 rfl ?_
    refine xe_getI (v := nI (gw G)) dX10_letterOf_29 fgX10_7 mm0 rfl (mg_w hG) ?_
    refine xi_aload_n dX10_letterOf_32 rfl ?_
    refine xe_getI (v := nI (gh G)) dX10_letterOf_33 fgX10_13 mm0 rfl (mg_h hG) ?_
    refine xe_imul dX10_letterOf_36 (v := nI (gN G)) (pk_mul (gw G) (gh G)) ?_
    refine xn_icmp_ge c (gN G) 152 dX10_letterOf_37 (by decide) rfl rfl (by omega) (by omega) (fun h37 => ?_) (fun h37 => ?_)
    · skip
      refine xi_bipush (v := 31) dX10_letterOf_152 (by decide) ?_
      refine xi_iload dX10_letterOf_154 rfl ?_
      refine xi_imul dX10_letterOf_156 ?_
      refine xi_aload_n dX10_letterOf_157 rfl ?_
      refine xi_getR dX10_letterOf_158 fgX10_39 mm0 rfl ?_
      refine xi_iload_n dX10_letterOf_161 rfl ?_
      refine xi_iconst (v := 1) dX10_letterOf_162 rfl ?_
      refine xe_iadd dX10_letterOf_163 (v := nI (s + (6 * p) + 1)) (nI_add (s + (6 * p)) 1) ?_
      have q1 := (hw).2.1 p (by omega)
      refine xe_iald (v := nI (sL S p)) (s + (6 * p) + 1) dX10_letterOf_164 mm5 (by decide) rfl (by omega) (rmL hS (by omega)) ?_
      refine xi_iadd dX10_letterOf_165 ?_
      refine xi_bipush (v := 8) dX10_letterOf_166 (by decide) ?_
      refine xat 168 rfl ?_
      refine xi_aload_n dX10_letterOf_168 rfl ?_
      refine xi_getR dX10_letterOf_169 fgX10_39 mm0 rfl ?_
      refine xi_iload_n dX10_letterOf_172 rfl ?_
      refine xi_iconst (v := 3) dX10_letterOf_173 rfl ?_
      refine xe_iadd dX10_letterOf_174 (v := nI (s + (6 * p) + 3)) (nI_add (s + (6 * p)) 3) ?_
      have q2 := (hw).2.2.2.1 p (by omega)
      refine xe_iald (v := nI (sR S p)) (s + (6 * p) + 3) dX10_letterOf_175 mm5 (by decide) rfl (by omega) (rmR hS (by omega)) ?_
      refine xe_imul dX10_letterOf_176 (v := nI (8 * (sR S p))) (pk_mul 8 (sR S p)) ?_
      refine xi_iadd dX10_letterOf_177 ?_
      refine xi_bipush (v := 64) dX10_letterOf_178 (by decide) ?_
      refine xi_aload_n dX10_letterOf_180 rfl ?_
      refine xi_getR dX10_letterOf_181 fgX10_39 mm0 rfl ?_
      refine xi_iload_n dX10_letterOf_184 rfl ?_
      refine xat 185 rfl ?_
      refine xi_iconst (v := 4) dX10_letterOf_185 rfl ?_
      refine xe_iadd dX10_letterOf_186 (v := nI (s + (6 * p) + 4)) (nI_add (s + (6 * p)) 4) ?_
      refine xe_iald (v := xo (sH S p)) (s + (6 * p) + 4) dX10_letterOf_187 mm5 (by decide) rfl (by omega) (rmH hS (by omega)) ?_
      refine xi_iconst (v := 1) dX10_letterOf_188 rfl ?_
      refine xi_iadd dX10_letterOf_189 ?_
      refine xi_imul dX10_letterOf_190 ?_
      refine xi_iadd dX10_letterOf_191 ?_
      refine xi_istore (lv' := [some (.ref 0), some (.int (nI s)), some (.int (nI p)), some (.int (nI (s + (6 * p)))), some (.int ((((31 * d) + nI (sL S p)) + nI (8 * (sR S p))) + (64 * (xo (sH S p) + 1)))), some (.int (nI c)), none]) dX10_letterOf_192 (by decide) rfl ?_
      refine xi_bipush (v := 31) dX10_letterOf_194 (by decide) ?_
      refine xi_iload dX10_letterOf_196 rfl ?_
      refine xi_imul dX10_letterOf_198 ?_
      refine xi_aload_n dX10_letterOf_199 rfl ?_
      refine xat 200 rfl ?_
      refine xi_getR dX10_letterOf_200 fgX10_39 mm0 rfl ?_
      refine xi_iload_n dX10_letterOf_203 rfl ?_
      refine xi_bipush (v := 108) dX10_letterOf_204 (by decide) ?_
      refine xe_iadd dX10_letterOf_206 (v := nI (s + 108)) (nI_add s 108) ?_
      refine xi_iload_n dX10_letterOf_207 rfl ?_
      refine xe_iadd dX10_letterOf_208 (v := nI (s + 108 + p)) (nI_add (s + 108) p) ?_
      refine xe_iald (v := sK S p) (s + 108 + p) dX10_letterOf_209 mm5 (by decide) rfl (by omega) (rmK hS (by omega)) ?_
      refine xi_iadd dX10_letterOf_210 ?_
      refine xi_iret (v := ((31 * ((((31 * d) + nI (sL S p)) + nI (8 * (sR S p))) + (64 * (xo (sH S p) + 1)))) + sK S p)) dX10_letterOf_211 rfl ?_
      exact h
    · omega
  | succ f ih =>
    intro c d hf h
    refine xi_iload dX10_letterOf_26 rfl ?_
    refine xi_aload_n dX10_letterOf_28 rfl ?_
    refine xe_getI (v := nI (gw G)) dX10_letterOf_29 fgX10_7 mm0 rfl (mg_w hG) ?_
    refine xi_aload_n dX10_letterOf_32 rfl ?_
    refine xe_getI (v := nI (gh G)) dX10_letterOf_33 fgX10_13 mm0 rfl (mg_h hG) ?_
    refine xe_imul dX10_letterOf_36 (v := nI (gN G)) (pk_mul (gw G) (gh G)) ?_
    refine xn_icmp_ge c (gN G) 152 dX10_letterOf_37 (by decide) rfl rfl (by omega) (by omega) (fun h37 => ?_) (fun h37 => ?_)
    · omega
    · skip
      refine xi_aload_n dX10_letterOf_40 rfl ?_
      refine xi_iload_n dX10_letterOf_41 rfl ?_
      refine xi_iload_n dX10_letterOf_42 rfl ?_
      refine xi_iload dX10_letterOf_43 rfl ?_
      refine xi_callV [.int (nI s), .int (nI p), .int (nI c)] [] dX10_letterOf_45 zX10_thingSees mlX10_211 mm0 rfl rfl rfl rfl rfl (Nat.le_of_ble_eq_true rfl) (Nat.le_of_ble_eq_true rfl) ⟨by decide, by decide⟩ ?_
      refine n_tsees hW hG hs hS hw (n := p) (k := c) (by omega) (by omega) (by omega) ?_
      show WP _ _ 48 _ [.int (xb (msee G S (mpos S p) c (mrad G S p)))] _ _
      refine xb_if_ne (msee G S (mpos S p) c (mrad G S p)) 54 dX10_letterOf_48 (by decide) rfl (fun h48 => ?_) (fun h48 => ?_)
      · skip
        refine xi_bipush (v := 31) dX10_letterOf_54 (by decide) ?_
        refine xi_iload dX10_letterOf_56 rfl ?_
        refine xi_imul dX10_letterOf_58 ?_
        refine xi_iload dX10_letterOf_59 rfl ?_
        refine xi_iadd dX10_letterOf_61 ?_
        refine xi_sipush (v := 128) dX10_letterOf_62 (by decide) ?_
        refine xi_aload_n dX10_letterOf_65 rfl ?_
        refine xi_iload_n dX10_letterOf_66 rfl ?_
        refine xi_iload dX10_letterOf_67 rfl ?_
        refine xi_callV [.int (nI s), .int (nI c)] [.int 128, .int ((31 * d) + nI c)] dX10_letterOf_69 zX10_mapTold mlX10_226 mm0 rfl rfl rfl rfl rfl (Nat.le_of_ble_eq_true rfl) (Nat.le_of_ble_eq_true rfl) ⟨by decide, by decide⟩ ?_
        refine n_mapTold hW hG hs hS (k := c) (by omega) ?_
        show WP _ _ 72 _ [.int (nI (mlook G S c)), .int 128, .int ((31 * d) + nI c)] _ _
        refine xe_imul dX10_letterOf_72 (v := nI (128 * (mlook G S c))) (pk_mul 128 (mlook G S c)) ?_
        refine xi_iadd dX10_letterOf_73 ?_
        refine xi_istore (lv' := [some (.ref 0), some (.int (nI s)), some (.int (nI p)), some (.int (nI (s + (6 * p)))), some (.int (((31 * d) + nI c) + nI (128 * (mlook G S c)))), some (.int (nI c)), none]) dX10_letterOf_74 (by decide) rfl ?_
        refine xi_iconst (v := 0) dX10_letterOf_76 rfl ?_
        refine xi_istore (lv' := [some (.ref 0), some (.int (nI s)), some (.int (nI p)), some (.int (nI (s + (6 * p)))), some (.int (((31 * d) + nI c) + nI (128 * (mlook G S c)))), some (.int (nI c)), some (.int 0)]) dX10_letterOf_77 (by decide) rfl ?_
        refine nl_letN hW hG hs hS hw hp (by omega) (gT G) 0 _ (by omega) ?_
        rw [mletL, if_pos (by rw [← mspot_r hp hl]; exact h48)] at h
        refine xi_iinc (v := nI (c + 1)) (lv' := [some (.ref 0), some (.int (nI s)), some (.int (nI p)), some (.int (nI (s + (6 * p)))), some (.int (maddL G S c 0 (gT G) (((31 * d) + nI c) + nI (128 * (mlook G S c))))), some (.int (nI (c + 1))), some (.int (nI (gT G)))]) dX10_letterOf_146 rfl (xinc c) (by decide) rfl ?_
        refine xi_goto 26 dX10_letterOf_149 (by decide) ?_
        refine xi_drop [true, true, true, true, true, true, false] rfl ?_
        exact ih (c + 1) _ (by omega) h
      · skip
        refine xi_goto 146 dX10_letterOf_51 (by decide) ?_
        refine xi_iinc (v := nI (c + 1)) (lv' := [some (.ref 0), some (.int (nI s)), some (.int (nI p)), some (.int (nI (s + (6 * p)))), some (.int d), some (.int (nI (c + 1))), none]) dX10_letterOf_146 rfl (xinc c) (by decide) rfl ?_
        refine xi_goto 26 dX10_letterOf_149 (by decide) ?_
        rw [mletL, if_neg (by rw [← mspot_r hp hl]; simp [h48])] at h
        refine xi_drop [true, true, true, true, true, true, false] rfl ?_
        exact ih (c + 1) _ (by omega) h

set_option maxHeartbeats 4000000 in
set_option maxRecDepth 100000 in
theorem n_letter {G : xG} {S : xS} {M : xM} {s : Nat} {Q : Option Value → xM → Prop} (hW : wG G) (hG : MG G M) (hs : s ≤ 56000) (hS : RM G S M s) (hw : wS G S) {p : Nat} (hp : p < gP G) (h : Q (some (.int (mletter G S p))) M) : WP shM mX10_letterOf 0 [some (.ref 0), some (.int (nI s)), some (.int (nI p)), none, none, none, none] [] M Q := by
  obtain ⟨b1, b2, b3, b4, b5, b6, b7, b8, b9, wmap, wlink, wk0, wk1, b10, b11, wword⟩ := id hW
  refine xi_iload_n dX10_letterOf_0 rfl ?_
  refine xi_bipush (v := 6) dX10_letterOf_1 (by decide) ?_
  refine xi_iload_n dX10_letterOf_3 rfl ?_
  refine xe_imul dX10_letterOf_4 (v := nI (6 * p)) (pk_mul 6 p) ?_
  refine xe_iadd dX10_letterOf_5 (v := nI (s + (6 * p))) (nI_add s (6 * p)) ?_
  refine xi_istore_n (lv' := [some (.ref 0), some (.int (nI s)), some (.int (nI p)), some (.int (nI (s + (6 * p)))), none, none, none]) dX10_letterOf_6 (by decide) rfl ?_
  refine xi_aload_n dX10_letterOf_7 rfl ?_
  refine xi_getR dX10_letterOf_8 fgX10_39 mm0 rfl ?_
  refine xi_iload_n dX10_letterOf_11 rfl ?_
  refine xi_iconst (v := 1) dX10_letterOf_12 rfl ?_
  refine xe_iadd dX10_letterOf_13 (v := nI (s + (6 * p) + 1)) (nI_add (s + (6 * p)) 1) ?_
  refine xat 14 rfl ?_
  have q1 := (hw).2.1 p (by omega)
  refine xe_iald (v := nI (sL S p)) (s + (6 * p) + 1) dX10_letterOf_14 mm5 (by decide) rfl (by omega) (rmL hS (by omega)) ?_
  refine xn_if_ne (sL S p) 20 dX10_letterOf_15 (by decide) rfl (by omega) (fun h15 => ?_) (fun h15 => ?_)
  · skip
    refine xi_iconst (v := 1) dX10_letterOf_20 rfl ?_
    refine xi_istore (lv' := [some (.ref 0), some (.int (nI s)), some (.int (nI p)), some (.int (nI (s + (6 * p)))), some (.int 1), none, none]) dX10_letterOf_21 (by decide) rfl ?_
    refine xi_iconst (v := 0) dX10_letterOf_23 rfl ?_
    refine xi_istore (lv' := [some (.ref 0), some (.int (nI s)), some (.int (nI p)), some (.int (nI (s + (6 * p)))), some (.int 1), some (.int 0), none]) dX10_letterOf_24 (by decide) rfl ?_
    rw [mletter, if_pos (by omega)] at h
    exact nl_letC hW hG hs hS hw hp (by omega) (gN G) 0 1 (by omega) h
  · skip
    refine xi_iconst (v := 0) dX10_letterOf_18 rfl ?_
    refine xi_iret (v := 0) dX10_letterOf_19 rfl ?_
    rw [mletter, if_neg (by omega)] at h
    exact h

