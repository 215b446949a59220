set_option maxHeartbeats 4000000 in
set_option maxRecDepth 100000 in
theorem nl_shoot {G : xG} {S : xS} {M : xM} {s : Nat} {Q : Option Value → xM → Prop} (hW : wG G) (hG : MG G M) (hs : s ≤ 56000) (hS : RM G S M s) (hw : wS G S) {p d : Nat} (hd : d < 4) : ∀ (f i : Nat) (o : Option Nat), i + f = 7 → (∀ k, o = some k → k < gN G) → (mline G S d f o = none → Q (some (.int 0)) M) → (∀ n M2, mline G S d f o = some n → Fm s M M2 → RM G (mhurt G S n 1) M2 s → Q (some (.int (nI (n + 1)))) M2) → WP shM mX10_shoot 61 [some (.ref 0), some (.int (nI s)), some (.int (nI p)), some (.int (nI d)), some (.int (nI (s + (6 * p)))), some (.int (xo o)), some (.int (nI i)), none] [] M Q := by
  obtain ⟨b1, b2, b3, b4, b5, b6, b7, b8, b9, wmap, wlink, wk0, wk1, b10, b11, wword⟩ := id hW
  intro f
  induction f with
  | zero =>
    intro i o hf ho hn hx
    refine xi_iload dX10_shoot_61 rfl ?_
    refine xi_bipush (v := 7) dX10_shoot_63 (by decide) ?_
    refine xn_icmp_ge i 7 125 dX10_shoot_65 (by decide) rfl rfl (by omega) (by omega) (fun h65 => ?_) (fun h65 => ?_)
    · skip
      refine xi_iconst (v := 0) dX10_shoot_125 rfl ?_
      refine xi_iret (v := 0) dX10_shoot_126 rfl ?_
      exact hn rfl
    · omega
  | succ f ih =>
    intro i o hf ho hn hx
    refine xi_iload dX10_shoot_61 rfl ?_
    refine xi_bipush (v := 7) dX10_shoot_63 (by decide) ?_
    refine xn_icmp_ge i 7 125 dX10_shoot_65 (by decide) rfl rfl (by omega) (by omega) (fun h65 => ?_) (fun h65 => ?_)
    · omega
    · skip
      refine xi_iload dX10_shoot_68 rfl ?_
      refine xo_if_lt o 125 dX10_shoot_70 (by decide) rfl (fun k q => by have := ho k q; omega) (fun h70 => ?_) (fun k h70 => ?_)
      · subst h70
        refine xi_iconst (v := 0) dX10_shoot_125 rfl ?_
        refine xi_iret (v := 0) dX10_shoot_126 rfl ?_
        exact hn rfl
      · subst h70
        have hk := ho k rfl
        refine xi_aload_n dX10_shoot_73 rfl ?_
        refine xi_iload_n dX10_shoot_74 rfl ?_
        refine xi_iload dX10_shoot_75 rfl ?_
        refine xi_callV [.int (nI s), .int (xo (some k))] [] dX10_shoot_77 zX10_bars mlX10_175 mm0 rfl rfl rfl rfl rfl (Nat.le_of_ble_eq_true rfl) (Nat.le_of_ble_eq_true rfl) ⟨by decide, by decide⟩ ?_
        refine n_bars hW hG hs hS (k := k) (by omega) ?_
        show WP _ _ 80 _ [.int (xb (mbars G S k))] _ _
        refine xb_if_ne (mbars G S k) 125 dX10_shoot_80 (by decide) rfl (fun h80 => ?_) (fun h80 => ?_)
        · skip
          refine xi_iconst (v := 0) dX10_shoot_125 rfl ?_
          refine xi_iret (v := 0) dX10_shoot_126 rfl ?_
          exact hn (by rw [mline, if_pos h80])
        · skip
          refine xi_aload_n dX10_shoot_83 rfl ?_
          refine xi_iload_n dX10_shoot_84 rfl ?_
          refine xi_iload dX10_shoot_85 rfl ?_
          refine xi_callV [.int (nI s), .int (xo (some k))] [] dX10_shoot_87 zX10_standingIn mlX10_156 mm0 rfl rfl rfl rfl rfl (Nat.le_of_ble_eq_true rfl) (Nat.le_of_ble_eq_true rfl) ⟨by decide, by decide⟩ ?_
          refine n_stand hW hG hs hS hw (k := k) ?_
          show WP _ _ 90 _ [.int (xo (mstand G S k))] _ _
          generalize eo87 : mstand G S k = o87
          refine xi_istore (lv' := [some (.ref 0), some (.int (nI s)), some (.int (nI p)), some (.int (nI d)), some (.int (nI (s + (6 * p)))), some (.int (xo (some k))), some (.int (nI i)), some (.int (xo o87))]) dX10_shoot_90 (by decide) rfl ?_
          refine xi_iload dX10_shoot_92 rfl ?_
          refine xo_if_lt o87 110 dX10_shoot_94 (by decide) rfl (fun m q => by have := mstand_lt (eo87.trans q); omega) (fun h94 => ?_) (fun m h94 => ?_)
          · subst h94
            refine xi_aload_n dX10_shoot_110 rfl ?_
            refine xi_iload dX10_shoot_111 rfl ?_
            refine xi_iload_n dX10_shoot_113 rfl ?_
            refine xi_callV [.int (xo (some k)), .int (nI d)] [] dX10_shoot_114 zX10_nextTo mlX10_192 mm0 rfl rfl rfl rfl rfl (Nat.le_of_ble_eq_true rfl) (Nat.le_of_ble_eq_true rfl) ⟨by decide, by decide⟩ ?_
            refine n_next hW hG (k := k) (d := d) (by omega) (by omega) ?_
            show WP _ _ 117 _ [.int (xo (mnext G k d))] _ _
            generalize eo114 : mnext G k d = o114
            refine xi_istore (lv' := [some (.ref 0), some (.int (nI s)), some (.int (nI p)), some (.int (nI d)), some (.int (nI (s + (6 * p)))), some (.int (xo o114)), some (.int (nI i)), some (.int (xo none))]) dX10_shoot_117 (by decide) rfl ?_
            refine xi_iinc (v := nI (i + 1)) (lv' := [some (.ref 0), some (.int (nI s)), some (.int (nI p)), some (.int (nI d)), some (.int (nI (s + (6 * p)))), some (.int (xo o114)), some (.int (nI (i + 1))), some (.int (xo none))]) dX10_shoot_119 rfl (xinc i) (by decide) rfl ?_
            refine xi_goto 61 dX10_shoot_122 (by decide) ?_
            refine xi_drop [true, true, true, true, true, true, true, false] rfl ?_
            have e : mline G S d (f + 1) (some k) = mline G S d f o114 := by rw [mline, if_neg (by simp [h80]), eo87, eo114]
            rw [e] at hn hx
            exact ih (i + 1) o114 (by omega) (fun j q => mnext_lt hW hk (eo114.trans q)) hn hx
          · subst h94
            have hm := mstand_lt eo87
            refine xi_aload_n dX10_shoot_97 rfl ?_
            refine xi_iload_n dX10_shoot_98 rfl ?_
            refine xi_iload dX10_shoot_99 rfl ?_
            refine xi_iconst (v := 1) dX10_shoot_101 rfl ?_
            refine xi_callV [.int (nI s), .int (xo (some m)), .int 1] [] dX10_shoot_102 zX10_lose mlX10_188 mm0 rfl rfl rfl rfl rfl (Nat.le_of_ble_eq_true rfl) (Nat.le_of_ble_eq_true rfl) ⟨by decide, by decide⟩ ?_
            refine n_lose hW hG hs hS hw (n := m) (l := 1) (by omega) (by omega) (fun M1 hF1 hS1 => ?_)
            have hG1 : MG G M1 := MG.fm hG hF1
            have hw1 : wS G (mhurt G S m 1) := wS_hurt hw (by omega)
            show WP _ _ 105 _ [] _ _
            refine xi_iload dX10_shoot_105 rfl ?_
            refine xi_iconst (v := 1) dX10_shoot_107 rfl ?_
            refine xe_iadd dX10_shoot_108 (v := nI (m + 1)) (nI_add m 1) ?_
            refine xi_iret (v := nI (m + 1)) dX10_shoot_109 rfl ?_
            exact hx m M1 (by rw [mline, if_neg (by simp [h80]), eo87]) hF1 hS1

set_option maxHeartbeats 4000000 in
set_option maxRecDepth 100000 in
theorem n_shoot {G : xG} {S : xS} {M : xM} {s : Nat} {Q : Option Value → xM → Prop} (hW : wG G) (hG : MG G M) (hs : s ≤ 56000) (hS : RM G S M s) (hw : wS G S) {p d : Nat} (hp : p < gP G) (hd : d < 4) (h : ∀ M2, Fm s M M2 → RM G (mshoot G S p d).2 M2 s → Q (some (.int (nI (mhit (mshoot G S p d).1)))) M2) : WP shM mX10_shoot 0 [some (.ref 0), some (.int (nI s)), some (.int (nI p)), some (.int (nI d)), none, none, none, none] [] M Q := by
  obtain ⟨b1, b2, b3, b4, b5, b6, b7, b8, b9, wmap, wlink, wk0, wk1, b10, b11, wword⟩ := id hW
  have hmp := mpos_P hW hw hp
  refine xi_iload_n dX10_shoot_0 rfl ?_
  refine xi_bipush (v := 6) dX10_shoot_1 (by decide) ?_
  refine xi_iload_n dX10_shoot_3 rfl ?_
  refine xe_imul dX10_shoot_4 (v := nI (6 * p)) (pk_mul 6 p) ?_
  refine xe_iadd dX10_shoot_5 (v := nI (s + (6 * p))) (nI_add s (6 * p)) ?_
  refine xi_istore (lv' := [some (.ref 0), some (.int (nI s)), some (.int (nI p)), some (.int (nI d)), some (.int (nI (s + (6 * p)))), none, none, none]) dX10_shoot_6 (by decide) rfl ?_
  refine xi_aload_n dX10_shoot_8 rfl ?_
  refine xi_getR dX10_shoot_9 fgX10_39 mm0 rfl ?_
  refine xi_iload dX10_shoot_12 rfl ?_
  refine xi_iconst (v := 3) dX10_shoot_14 rfl ?_
  refine xe_iadd dX10_shoot_15 (v := nI (s + (6 * p) + 3)) (nI_add (s + (6 * p)) 3) ?_
  refine xat 16 rfl ?_
  have q1 := (hw).2.2.2.1 p (by omega)
  refine xe_iald (v := nI (sR S p)) (s + (6 * p) + 3) dX10_shoot_16 mm5 (by decide) rfl (by omega) (rmR hS (by omega)) ?_
  refine xn_if_le (sR S p) 22 dX10_shoot_17 (by decide) rfl (by omega) (fun h17 => ?_) (fun h17 => ?_)
  · skip
    refine xi_aload_n dX10_shoot_22 rfl ?_
    refine xi_getR dX10_shoot_23 fgX10_39 mm0 rfl ?_
    refine xi_iload dX10_shoot_26 rfl ?_
    refine xi_iconst (v := 2) dX10_shoot_28 rfl ?_
    refine xe_iadd dX10_shoot_29 (v := nI (s + (6 * p) + 2)) (nI_add (s + (6 * p)) 2) ?_
    refine xi_iload_n dX10_shoot_30 rfl ?_
    refine xe_iast (s + (6 * p) + 2) dX10_shoot_31 mm5 (by decide) rfl (by omega) ?_
    generalize eM2 : (xa M 5 (upd (M.2.1 5) (s + (6 * p) + 2) (nI d))) = M2
    have hS2 : RM G (uF S p (nI d)) M2 s := by rw [← eM2]; exact rmuF hW hS (by omega) (nI d)
    have hF2 : Fm s M M2 := by rw [← eM2]; exact Fm.xa (by omega) (by omega)
    have hG2 : MG G M2 := MG.fm hG hF2
    have hw2 : wS G (uF S p (nI d)) := (wS_uF hw)
    refine xi_aload_n dX10_shoot_32 rfl ?_
    refine xi_getR dX10_shoot_33 fgX10_39 mm0 rfl ?_
    refine xi_iload dX10_shoot_36 rfl ?_
    refine xi_iconst (v := 3) dX10_shoot_38 rfl ?_
    refine xat 39 rfl ?_
    refine xe_iadd dX10_shoot_39 (v := nI (s + (6 * p) + 3)) (nI_add (s + (6 * p)) 3) ?_
    refine xi_iconst (v := 3) dX10_shoot_40 rfl ?_
    refine xe_iast (s + (6 * p) + 3) dX10_shoot_41 mm5 (by decide) rfl (by omega) ?_
    generalize eM3 : (xa M2 5 (upd (M2.2.1 5) (s + (6 * p) + 3) 3)) = M3
    have hS3 : RM G (uR (uF S p (nI d)) p 3) M3 s := by rw [← eM3]; exact rmuR hW hS2 (by omega) 3
    have hF3 : Fm s M2 M3 := by rw [← eM3]; exact Fm.xa (by omega) (by omega)
    have hG3 : MG G M3 := MG.fm hG2 hF3
    have hw3 : wS G (uR (uF S p (nI d)) p 3) := (wS_uR hw2 (by omega))
    refine xi_aload_n dX10_shoot_42 rfl ?_
    refine xi_aload_n dX10_shoot_43 rfl ?_
    refine xi_getR dX10_shoot_44 fgX10_39 mm0 rfl ?_
    refine xi_iload dX10_shoot_47 rfl ?_
    refine xi_iconst (v := 0) dX10_shoot_49 rfl ?_
    refine xe_iadd dX10_shoot_50 (v := nI (s + (6 * p) + 0)) (nI_add (s + (6 * p)) 0) ?_
    refine xe_iald (v := nI (mpos S p)) (s + (6 * p) + 0) dX10_shoot_51 mm5 (by decide) rfl (by omega) ((rmC hS3 (by omega)).trans hmp.1) ?_
    refine xi_iload_n dX10_shoot_52 rfl ?_
    refine xi_callV [.int (nI (mpos S p)), .int (nI d)] [] dX10_shoot_53 zX10_nextTo mlX10_192 mm0 rfl rfl rfl rfl rfl (Nat.le_of_ble_eq_true rfl) (Nat.le_of_ble_eq_true rfl) ⟨by decide, by decide⟩ ?_
    refine n_next hW hG3 (k := mpos S p) (d := d) (by omega) (by omega) ?_
    show WP _ _ 56 _ [.int (xo (mnext G (mpos S p) d))] _ _
    generalize eo53 : mnext G (mpos S p) d = o53
    refine xi_istore (lv' := [some (.ref 0), some (.int (nI s)), some (.int (nI p)), some (.int (nI d)), some (.int (nI (s + (6 * p)))), some (.int (xo o53)), none, none]) dX10_shoot_56 (by decide) rfl ?_
    refine xi_iconst (v := 0) dX10_shoot_58 rfl ?_
    refine xi_istore (lv' := [some (.ref 0), some (.int (nI s)), some (.int (nI p)), some (.int (nI d)), some (.int (nI (s + (6 * p)))), some (.int (xo o53)), some (.int 0), none]) dX10_shoot_59 (by decide) rfl ?_
    refine nl_shoot hW hG3 hs hS3 hw3 hd 7 0 o53 (by omega) (fun j q => mnext_lt hW hmp.2 (eo53.trans q)) (fun q => ?_) (fun n M99 q hF99 hS99 => ?_)
    · have e : mshoot G S p d = (none, (uR (uF S p (nI d)) p 3)) := by rw [mshoot, if_pos h17, eo53, q]
      rw [e] at h
      exact h M3 (hF2.tr hF3) hS3
    · have e : mshoot G S p d = (some n, mhurt G (uR (uF S p (nI d)) p 3) n 1) := by rw [mshoot, if_pos h17, eo53, q]
      rw [e] at h
      exact h M99 ((hF2.tr hF3).tr hF99) hS99
  · skip
    refine xi_iconst (v := 0) dX10_shoot_20 rfl ?_
    refine xi_iret (v := 0) dX10_shoot_21 rfl ?_
    have e : mshoot G S p d = (none, S) := by rw [mshoot, if_neg (by omega)]
    rw [e] at h
    exact h M Fm.rf hS

set_option maxHeartbeats 4000000 in
set_option maxRecDepth 100000 in
theorem nl_thrX {G : xG} {S : xS} {M : xM} {s : Nat} {Q : Option Value → xM → Prop} (hW : wG G) (hG : MG G M) (hs : s ≤ 56000) (hS : RM G S M s) (hw : wS G S) {p d j l : Nat} {v : Option Nat} (hp : p < gP G) (hj : sH S p = some j) (hl : l < gN G) (hv : ∀ m, v = some m → m < gT G) (h : ∀ M2, Fm s M M2 → RM G (mthr G S p (l, v)) M2 s → Q (some (.int (nI (mhit v)))) M2) : WP shM mX10_throwIt 127 [some (.ref 0), some (.int (nI s)), some (.int (nI p)), some (.int (nI d)), some (.int (nI (s + (6 * p)))), some (.int (nI j)), some (.int (nI l)), none, some (.int (xo v)), none] [] M Q := by
  obtain ⟨b1, b2, b3, b4, b5, b6, b7, b8, b9, wmap, wlink, wk0, wk1, b10, b11, wword⟩ := id hW
  have hjj := hw.2.2.2.2 p hp j hj
  have el : mlet S p (nI l) = uC (uB (uH S p none) j none) j (nI l) := by unfold mlet; rw [hj]
  refine xi_aload_n dX10_throwIt_127 rfl ?_
  refine xi_getR dX10_throwIt_128 fgX10_39 mm0 rfl ?_
  refine xi_iload dX10_throwIt_131 rfl ?_
  refine xi_iconst (v := 4) dX10_throwIt_133 rfl ?_
  refine xe_iadd dX10_throwIt_134 (v := nI (s + (6 * p) + 4)) (nI_add (s + (6 * p)) 4) ?_
  refine xi_iconst (v := (-1)) dX10_throwIt_135 rfl ?_
  refine xe_iast (s + (6 * p) + 4) dX10_throwIt_136 mm5 (by decide) rfl (by omega) ?_
  generalize eM1 : (xa M 5 (upd (M.2.1 5) (s + (6 * p) + 4) (-1))) = M1
  have hS1 : RM G (uH S p none) M1 s := by rw [← eM1]; exact rmuH hW hS (by omega) none
  have hF1 : Fm s M M1 := by rw [← eM1]; exact Fm.xa (by omega) (by omega)
  have hG1 : MG G M1 := MG.fm hG hF1
  have hw1 : wS G (uH S p none) := (wS_uH hw (fun _ q => by cases q))
  refine xi_aload_n dX10_throwIt_137 rfl ?_
  refine xi_getR dX10_throwIt_138 fgX10_39 mm0 rfl ?_
  refine xi_iload_n dX10_throwIt_141 rfl ?_
  refine xi_bipush (v := 6) dX10_throwIt_142 (by decide) ?_
  refine xat 144 rfl ?_
  refine xi_iload dX10_throwIt_144 rfl ?_
  refine xe_imul dX10_throwIt_146 (v := nI (6 * j)) (pk_mul 6 j) ?_
  refine xe_iadd dX10_throwIt_147 (v := nI (s + (6 * j))) (nI_add s (6 * j)) ?_
  refine xi_iconst (v := 5) dX10_throwIt_148 rfl ?_
  refine xe_iadd dX10_throwIt_149 (v := nI (s + (6 * j) + 5)) (nI_add (s + (6 * j)) 5) ?_
  refine xi_iconst (v := (-1)) dX10_throwIt_150 rfl ?_
  refine xe_iast (s + (6 * j) + 5) dX10_throwIt_151 mm5 (by decide) rfl (by omega) ?_
  generalize eM2 : (xa M1 5 (upd (M1.2.1 5) (s + (6 * j) + 5) (-1))) = M2
  have hS2 : RM G (uB (uH S p none) j none) M2 s := by rw [← eM2]; exact rmuB hW hS1 (by omega) none
  have hF2 : Fm s M1 M2 := by rw [← eM2]; exact Fm.xa (by omega) (by omega)
  have hG2 : MG G M2 := MG.fm hG1 hF2
  have hw2 : wS G (uB (uH S p none) j none) := (wS_uB hw1)
  refine xi_aload_n dX10_throwIt_152 rfl ?_
  refine xi_getR dX10_throwIt_153 fgX10_39 mm0 rfl ?_
  refine xi_iload_n dX10_throwIt_156 rfl ?_
  refine xi_bipush (v := 6) dX10_throwIt_157 (by decide) ?_
  refine xi_iload dX10_throwIt_159 rfl ?_
  refine xat 161 rfl ?_
  refine xe_imul dX10_throwIt_161 (v := nI (6 * j)) (pk_mul 6 j) ?_
  refine xe_iadd dX10_throwIt_162 (v := nI (s + (6 * j))) (nI_add s (6 * j)) ?_
  refine xi_iconst (v := 0) dX10_throwIt_163 rfl ?_
  refine xe_iadd dX10_throwIt_164 (v := nI (s + (6 * j) + 0)) (nI_add (s + (6 * j)) 0) ?_
  refine xi_iload dX10_throwIt_165 rfl ?_
  refine xe_iast (s + (6 * j) + 0) dX10_throwIt_167 mm5 (by decide) rfl (by omega) ?_
  generalize eM3 : (xa M2 5 (upd (M2.2.1 5) (s + (6 * j) + 0) (nI l))) = M3
  have hS3 : RM G (uC (uB (uH S p none) j none) j (nI l)) M3 s := by rw [← eM3]; exact rmuC hW hS2 (by omega) (nI l)
  have hF3 : Fm s M2 M3 := by rw [← eM3]; exact Fm.xa (by omega) (by omega)
  have hG3 : MG G M3 := MG.fm hG2 hF3
  have hw3 : wS G (uC (uB (uH S p none) j none) j (nI l)) := (wS_uC_it hw2 (by omega))
  refine xi_iload dX10_throwIt_168 rfl ?_
  refine xo_if_lt v 181 dX10_throwIt_170 (by decide) rfl (fun m q => by have := hv m q; omega) (fun h170 => ?_) (fun m h170 => ?_)
  · subst h170
    refine xi_iload dX10_throwIt_181 rfl ?_
    refine xi_iconst (v := 1) dX10_throwIt_183 rfl ?_
    refine xe_iadd dX10_throwIt_184 (v := nI 0) rfl ?_
    refine xi_iret (v := nI 0) dX10_throwIt_185 rfl ?_
    refine h M3 ((hF1.tr hF2).tr hF3) ?_
    unfold mthr
    rw [el]
    exact hS3
  · subst h170
    have hm := hv m rfl
    refine xi_aload_n dX10_throwIt_173 rfl ?_
    refine xi_iload_n dX10_throwIt_174 rfl ?_
    refine xi_iload dX10_throwIt_175 rfl ?_
    refine xi_iconst (v := 1) dX10_throwIt_177 rfl ?_
    refine xi_callV [.int (nI s), .int (xo (some m)), .int 1] [] dX10_throwIt_178 zX10_lose mlX10_188 mm0 rfl rfl rfl rfl rfl (Nat.le_of_ble_eq_true rfl) (Nat.le_of_ble_eq_true rfl) ⟨by decide, by decide⟩ ?_
    refine n_lose hW hG3 hs hS3 hw3 (n := m) (l := 1) (by omega) (by omega) (fun M4 hF4 hS4 => ?_)
    have hG4 : MG G M4 := MG.fm hG3 hF4
    have hw4 : wS G (mhurt G (uC (uB (uH S p none) j none) j (nI l)) m 1) := wS_hurt hw3 (by omega)
    show WP _ _ 181 _ [] _ _
    refine xi_iload dX10_throwIt_181 rfl ?_
    refine xi_iconst (v := 1) dX10_throwIt_183 rfl ?_
    refine xe_iadd dX10_throwIt_184 (v := nI (m + 1)) (nI_add m 1) ?_
    refine xi_iret (v := nI (m + 1)) dX10_throwIt_185 rfl ?_
    refine h M4 (((hF1.tr hF2).tr hF3).tr hF4) ?_
    unfold mthr
    rw [el]
    exact hS4

set_option maxHeartbeats 4000000 in
set_option maxRecDepth 100000 in
theorem nl_thr {G : xG} {S : xS} {M : xM} {s : Nat} {Q : Option Value → xM → Prop} (hW : wG G) (hG : MG G M) (hs : s ≤ 56000) (hS : RM G S M s) (hw : wS G S) {p d j : Nat} (hp : p < gP G) (hd : d < 4) (hj : sH S p = some j) : ∀ (f i l : Nat) (o : Option Nat), i + f = 4 → l < gN G → (∀ k, o = some k → k < gN G) → (∀ M2, Fm s M M2 → RM G (mthr G S p (mfly G S d f l o)) M2 s → Q (some (.int (nI (mhit (mfly G S d f l o).2)))) M2) → WP shM mX10_throwIt 73 [some (.ref 0), some (.int (nI s)), some (.int (nI p)), some (.int (nI d)), some (.int (nI (s + (6 * p)))), some (.int (nI j)), some (.int (nI l)), some (.int (xo o)), some (.int (xo none)), some (.int (nI i))] [] M Q := by
  obtain ⟨b1, b2, b3, b4, b5, b6, b7, b8, b9, wmap, wlink, wk0, wk1, b10, b11, wword⟩ := id hW
  intro f
  induction f with
  | zero =>
    intro i l o hf hl ho h
    refine xi_iload dX10_throwIt_73 rfl ?_
    refine xi_iconst (v := 4) dX10_throwIt_75 rfl ?_
    refine xn_icmp_ge i 4 127 dX10_throwIt_76 (by decide) rfl rfl (by omega) (by omega) (fun h76 => ?_) (fun h76 => ?_)
    · skip
      refine xi_drop [true, true, true, true, true, true, true, false, true, false] rfl ?_
      have e : mfly G S d 0 l o = (l, none) := rfl
      rw [e] at h
      exact nl_thrX hW hG hs hS hw hp hj hl (fun m q => by cases q) h
    · omega
  | succ f ih =>
    intro i l o hf hl ho h
    refine xi_iload dX10_throwIt_73 rfl ?_
    refine xi_iconst (v := 4) dX10_throwIt_75 rfl ?_
    refine xn_icmp_ge i 4 127 dX10_throwIt_76 (by decide) rfl rfl (by omega) (by omega) (fun h76 => ?_) (fun h76 => ?_)
    · omega
    · skip
      refine xi_iload dX10_throwIt_79 rfl ?_
      refine xo_if_lt o 127 dX10_throwIt_81 (by decide) rfl (fun k q => by have := ho k q; omega) (fun h81 => ?_) (fun k h81 => ?_)
      · subst h81
        refine xi_drop [true, true, true, true, true, true, true, false, true, false] rfl ?_
        have e : mfly G S d (f + 1) l none = (l, none) := rfl
        rw [e] at h
        exact nl_thrX hW hG hs hS hw hp hj hl (fun m q => by cases q) h
      · subst h81
        have hk := ho k rfl
        refine xi_iload dX10_throwIt_84 rfl ?_
        refine xi_if_ge 127 dX10_throwIt_86 (by decide) (fun z => absurd z (by decide)) (fun _ => ?_)
        refine xi_aload_n dX10_throwIt_89 rfl ?_
        refine xi_iload_n dX10_throwIt_90 rfl ?_
        refine xi_iload dX10_throwIt_91 rfl ?_
        refine xi_callV [.int (nI s), .int (xo (some k))] [] dX10_throwIt_93 zX10_bars mlX10_175 mm0 rfl rfl rfl rfl rfl (Nat.le_of_ble_eq_true rfl) (Nat.le_of_ble_eq_true rfl) ⟨by decide, by decide⟩ ?_
        refine n_bars hW hG hs hS (k := k) (by omega) ?_
        show WP _ _ 96 _ [.int (xb (mbars G S k))] _ _
        refine xb_if_ne (mbars G S k) 127 dX10_throwIt_96 (by decide) rfl (fun h96 => ?_) (fun h96 => ?_)
        · skip
          refine xi_drop [true, true, true, true, true, true, true, false, true, false] rfl ?_
          have e : mfly G S d (f + 1) l (some k) = (l, none) := by rw [mfly, if_pos h96]
          rw [e] at h
          exact nl_thrX hW hG hs hS hw hp hj hl (fun m q => by cases q) h
        · skip
          refine xi_iload dX10_throwIt_99 rfl ?_
          refine xi_istore (lv' := [some (.ref 0), some (.int (nI s)), some (.int (nI p)), some (.int (nI d)), some (.int (nI (s + (6 * p)))), some (.int (nI j)), some (.int (xo (some k))), some (.int (xo (some k))), some (.int (xo none)), some (.int (nI i))]) dX10_throwIt_101 (by decide) rfl ?_
          refine xi_aload_n dX10_throwIt_103 rfl ?_
          refine xi_iload_n dX10_throwIt_104 rfl ?_
          refine xi_iload dX10_throwIt_105 rfl ?_
          refine xi_callV [.int (nI s), .int (xo (some k))] [] dX10_throwIt_107 zX10_standingIn mlX10_156 mm0 rfl rfl rfl rfl rfl (Nat.le_of_ble_eq_true rfl) (Nat.le_of_ble_eq_true rfl) ⟨by decide, by decide⟩ ?_
          refine n_stand hW hG hs hS hw (k := k) ?_
          show WP _ _ 110 _ [.int (xo (mstand G S k))] _ _
          generalize eo107 : mstand G S k = o107
          rcases o107 with _ | m
          · skip
            refine xi_istore (lv' := [some (.ref 0), some (.int (nI s)), some (.int (nI p)), some (.int (nI d)), some (.int (nI (s + (6 * p)))), some (.int (nI j)), some (.int (xo (some k))), some (.int (xo (some k))), some (.int (xo none)), some (.int (nI i))]) dX10_throwIt_110 (by decide) rfl ?_
            refine xi_aload_n dX10_throwIt_112 rfl ?_
            refine xi_iload dX10_throwIt_113 rfl ?_
            refine xi_iload_n dX10_throwIt_115 rfl ?_
            refine xi_callV [.int (xo (some k)), .int (nI d)] [] dX10_throwIt_116 zX10_nextTo mlX10_192 mm0 rfl rfl rfl rfl rfl (Nat.le_of_ble_eq_true rfl) (Nat.le_of_ble_eq_true rfl) ⟨by decide, by decide⟩ ?_
            refine n_next hW hG (k := k) (d := d) (by omega) (by omega) ?_
            show WP _ _ 119 _ [.int (xo (mnext G k d))] _ _
            generalize eo116 : mnext G k d = o116
            refine xi_istore (lv' := [some (.ref 0), some (.int (nI s)), some (.int (nI p)), some (.int (nI d)), some (.int (nI (s + (6 * p)))), some (.int (nI j)), some (.int (xo (some k))), some (.int (xo o116)), some (.int (xo none)), some (.int (nI i))]) dX10_throwIt_119 (by decide) rfl ?_
            refine xi_iinc (v := nI (i + 1)) (lv' := [some (.ref 0), some (.int (nI s)), some (.int (nI p)), some (.int (nI d)), some (.int (nI (s + (6 * p)))), some (.int (nI j)), some (.int (xo (some k))), some (.int (xo o116)), some (.int (xo none)), some (.int (nI (i + 1)))]) dX10_throwIt_121 rfl (xinc i) (by decide) rfl ?_
            refine xi_goto 73 dX10_throwIt_124 (by decide) ?_
            have e : mfly G S d (f + 1) l (some k) = mfly G S d f k o116 := by rw [mfly, if_neg (by simp [h96]), eo107, eo116]
            rw [e] at h
            exact ih (i + 1) k o116 (by omega) hk (fun j q => mnext_lt hW hk (eo116.trans q)) h
          · skip
            refine xi_istore (lv' := [some (.ref 0), some (.int (nI s)), some (.int (nI p)), some (.int (nI d)), some (.int (nI (s + (6 * p)))), some (.int (nI j)), some (.int (xo (some k))), some (.int (xo (some k))), some (.int (xo (some m))), some (.int (nI i))]) dX10_throwIt_110 (by decide) rfl ?_
            refine xi_aload_n dX10_throwIt_112 rfl ?_
            refine xi_iload dX10_throwIt_113 rfl ?_
            refine xi_iload_n dX10_throwIt_115 rfl ?_
            refine xi_callV [.int (xo (some k)), .int (nI d)] [] dX10_throwIt_116 zX10_nextTo mlX10_192 mm0 rfl rfl rfl rfl rfl (Nat.le_of_ble_eq_true rfl) (Nat.le_of_ble_eq_true rfl) ⟨by decide, by decide⟩ ?_
            refine n_next hW hG (k := k) (d := d) (by omega) (by omega) ?_
            show WP _ _ 119 _ [.int (xo (mnext G k d))] _ _
            generalize eo116 : mnext G k d = o116
            refine xi_istore (lv' := [some (.ref 0), some (.int (nI s)), some (.int (nI p)), some (.int (nI d)), some (.int (nI (s + (6 * p)))), some (.int (nI j)), some (.int (xo (some k))), some (.int (xo o116)), some (.int (xo (some m))), some (.int (nI i))]) dX10_throwIt_119 (by decide) rfl ?_
            refine xi_iinc (v := nI (i + 1)) (lv' := [some (.ref 0), some (.int (nI s)), some (.int (nI p)), some (.int (nI d)), some (.int (nI (s + (6 * p)))), some (.int (nI j)), some (.int (xo (some k))), some (.int (xo o116)), some (.int (xo (some m))), some (.int (nI (i + 1)))]) dX10_throwIt_121 rfl (xinc i) (by decide) rfl ?_
            refine xi_goto 73 dX10_throwIt_124 (by decide) ?_
            have hm := mstand_lt eo107
            have e : mfly G S d (f + 1) l (some k) = (k, some m) := by rw [mfly, if_neg (by simp [h96]), eo107]
            rw [e] at h
            refine xi_iload dX10_throwIt_73 rfl ?_
            refine xi_iconst (v := 4) dX10_throwIt_75 rfl ?_
            refine xn_icmp_ge (i + 1) 4 127 dX10_throwIt_76 (by decide) rfl rfl (by omega) (by omega) (fun h76 => ?_) (fun h76 => ?_)
            · skip
              refine xi_drop [true, true, true, true, true, true, true, false, true, false] rfl ?_
              exact nl_thrX hW hG hs hS hw hp hj hk (fun j q => by cases q; exact hm.1) h
            · skip
              refine xi_iload dX10_throwIt_79 rfl ?_
              refine xo_if_lt o116 127 dX10_throwIt_81 (by decide) rfl (fun k q => by have := mnext_lt hW hk (eo116.trans q); omega) (fun h81 => ?_) (fun k9 h81 => ?_)
              · subst h81
                refine xi_drop [true, true, true, true, true, true, true, false, true, false] rfl ?_
                exact nl_thrX hW hG hs hS hw hp hj hk (fun j q => by cases q; exact hm.1) h
              · subst h81
                refine xi_iload dX10_throwIt_84 rfl ?_
                refine xn_if_ge m 127 dX10_throwIt_86 (by decide) rfl (by omega) ?_
                refine xi_drop [true, true, true, true, true, true, true, false, true, false] rfl ?_
                exact nl_thrX hW hG hs hS hw hp hj hk (fun j q => by cases q; exact hm.1) h

set_option maxHeartbeats 4000000 in
set_option maxRecDepth 100000 in
theorem n_throw {G : xG} {S : xS} {M : xM} {s : Nat} {Q : Option Value → xM → Prop} (hW : wG G) (hG : MG G M) (hs : s ≤ 56000) (hS : RM G S M s) (hw : wS G S) {p d : Nat} (hp : p < gP G) (hd : d < 4) (h : ∀ M2, Fm s M M2 → RM G (mhurl G S p d).2 M2 s → Q (some (.int (nI (mhit (mhurl G S p d).1)))) M2) : WP shM mX10_throwIt 0 [some (.ref 0), some (.int (nI s)), some (.int (nI p)), some (.int (nI d)), none, none, none, none, none, none] [] M Q := by
  obtain ⟨b1, b2, b3, b4, b5, b6, b7, b8, b9, wmap, wlink, wk0, wk1, b10, b11, wword⟩ := id hW
  have hmp := mpos_P hW hw hp
  refine xi_iload_n dX10_throwIt_0 rfl ?_
  refine xi_bipush (v := 6) dX10_throwIt_1 (by decide) ?_
  refine xi_iload_n dX10_throwIt_3 rfl ?_
  refine xe_imul dX10_throwIt_4 (v := nI (6 * p)) (pk_mul 6 p) ?_
  refine xe_iadd dX10_throwIt_5 (v := nI (s + (6 * p))) (nI_add s (6 * p)) ?_
  refine xi_istore (lv' := [some (.ref 0), some (.int (nI s)), some (.int (nI p)), some (.int (nI d)), some (.int (nI (s + (6 * p)))), none, none, none, none, none]) dX10_throwIt_6 (by decide) rfl ?_
  refine xi_aload_n dX10_throwIt_8 rfl ?_
  refine xi_getR dX10_throwIt_9 fgX10_39 mm0 rfl ?_
  refine xi_iload dX10_throwIt_12 rfl ?_
  refine xi_iconst (v := 4) dX10_throwIt_14 rfl ?_
  refine xe_iadd dX10_throwIt_15 (v := nI (s + (6 * p) + 4)) (nI_add (s + (6 * p)) 4) ?_
  refine xat 16 rfl ?_
  obtain ⟨o1, ho1⟩ : ∃ o, o = sH S p := ⟨_, rfl⟩
  refine xe_iald (v := xo o1) (s + (6 * p) + 4) dX10_throwIt_16 mm5 (by decide) rfl (by omega) (by rw [ho1]; exact rmH hS (by omega)) ?_
  refine xi_istore (lv' := [some (.ref 0), some (.int (nI s)), some (.int (nI p)), some (.int (nI d)), some (.int (nI (s + (6 * p)))), some (.int (xo o1)), none, none, none, none]) dX10_throwIt_17 (by decide) rfl ?_
  refine xi_iload dX10_throwIt_19 rfl ?_
  refine xo_if_lt o1 35 dX10_throwIt_21 (by decide) rfl (fun j q => by have := hw.2.2.2.2 p hp j (ho1.symm.trans q); omega) (fun h21 => ?_) (fun j h21 => ?_)
  · subst h21
    refine xi_iconst (v := 0) dX10_throwIt_35 rfl ?_
    refine xi_iret (v := 0) dX10_throwIt_36 rfl ?_
    have hc : ¬ mcar G S p 5 = true := by simp [mcar, ← ho1]
    have e : mhurl G S p d = (none, S) := by rw [mhurl, if_neg hc]
    rw [e] at h
    exact h M Fm.rf hS
  · subst h21
    have hjj := hw.2.2.2.2 p hp j ho1.symm
    refine xi_aload_n dX10_throwIt_24 rfl ?_
    refine xi_getR dX10_throwIt_25 fgX10_29 mm0 rfl ?_
    refine xi_iload dX10_throwIt_28 rfl ?_
    have q2 : gkind G j ≤ 7 := hW.kind (by omega)
    refine xe_iald (v := nI (gkind G j)) j dX10_throwIt_30 mm4 (by decide) rfl (by omega) (mg_kind hG (by omega)) ?_
    refine xi_iconst (v := 5) dX10_throwIt_31 rfl ?_
    refine xn_icmp_eq (gkind G j) 5 37 dX10_throwIt_32 (by decide) rfl rfl (by omega) (by omega) (fun h32 => ?_) (fun h32 => ?_)
    · skip
      refine xi_aload_n dX10_throwIt_37 rfl ?_
      refine xi_getR dX10_throwIt_38 fgX10_39 mm0 rfl ?_
      refine xi_iload dX10_throwIt_41 rfl ?_
      refine xi_iconst (v := 2) dX10_throwIt_43 rfl ?_
      refine xe_iadd dX10_throwIt_44 (v := nI (s + (6 * p) + 2)) (nI_add (s + (6 * p)) 2) ?_
      refine xi_iload_n dX10_throwIt_45 rfl ?_
      refine xe_iast (s + (6 * p) + 2) dX10_throwIt_46 mm5 (by decide) rfl (by omega) ?_
      generalize eM3 : (xa M 5 (upd (M.2.1 5) (s + (6 * p) + 2) (nI d))) = M3
      have hS3 : RM G (uF S p (nI d)) M3 s := by rw [← eM3]; exact rmuF hW hS (by omega) (nI d)
      have hF3 : Fm s M M3 := by rw [← eM3]; exact Fm.xa (by omega) (by omega)
      have hG3 : MG G M3 := MG.fm hG hF3
      have hw3 : wS G (uF S p (nI d)) := (wS_uF hw)
      refine xi_aload_n dX10_throwIt_47 rfl ?_
      refine xi_getR dX10_throwIt_48 fgX10_39 mm0 rfl ?_
      refine xi_iload dX10_throwIt_51 rfl ?_
      refine xi_iconst (v := 0) dX10_throwIt_53 rfl ?_
      refine xat 54 rfl ?_
      refine xe_iadd dX10_throwIt_54 (v := nI (s + (6 * p) + 0)) (nI_add (s + (6 * p)) 0) ?_
      refine xe_iald (v := nI (mpos S p)) (s + (6 * p) + 0) dX10_throwIt_55 mm5 (by decide) rfl (by omega) ((rmC hS3 (by omega)).trans hmp.1) ?_
      refine xi_istore (lv' := [some (.ref 0), some (.int (nI s)), some (.int (nI p)), some (.int (nI d)), some (.int (nI (s + (6 * p)))), some (.int (xo (some j))), some (.int (nI (mpos S p))), none, none, none]) dX10_throwIt_56 (by decide) rfl ?_
      refine xi_aload_n dX10_throwIt_58 rfl ?_
      refine xi_iload dX10_throwIt_59 rfl ?_
      refine xi_iload_n dX10_throwIt_61 rfl ?_
      refine xi_callV [.int (nI (mpos S p)), .int (nI d)] [] dX10_throwIt_62 zX10_nextTo mlX10_192 mm0 rfl rfl rfl rfl rfl (Nat.le_of_ble_eq_true rfl) (Nat.le_of_ble_eq_true rfl) ⟨by decide, by decide⟩ ?_
      refine n_next hW hG3 (k := mpos S p) (d := d) (by omega) (by omega) ?_
      show WP _ _ 65 _ [.int (xo (mnext G (mpos S p) d))] _ _
      generalize eo62 : mnext G (mpos S p) d = o62
      refine xi_istore (lv' := [some (.ref 0), some (.int (nI s)), some (.int (nI p)), some (.int (nI d)), some (.int (nI (s + (6 * p)))), some (.int (xo (some j))), some (.int (nI (mpos S p))), some (.int (xo o62)), none, none]) dX10_throwIt_65 (by decide) rfl ?_
      refine xi_iconst (v := (-1)) dX10_throwIt_67 rfl ?_
      refine xi_istore (lv' := [some (.ref 0), some (.int (nI s)), some (.int (nI p)), some (.int (nI d)), some (.int (nI (s + (6 * p)))), some (.int (xo (some j))), some (.int (nI (mpos S p))), some (.int (xo o62)), some (.int (-1)), none]) dX10_throwIt_68 (by decide) rfl ?_
      refine xi_iconst (v := 0) dX10_throwIt_70 rfl ?_
      refine xi_istore (lv' := [some (.ref 0), some (.int (nI s)), some (.int (nI p)), some (.int (nI d)), some (.int (nI (s + (6 * p)))), some (.int (xo (some j))), some (.int (nI (mpos S p))), some (.int (xo o62)), some (.int (-1)), some (.int 0)]) dX10_throwIt_71 (by decide) rfl ?_
      have hc : mcar G S p 5 = true := by simp [mcar, ← ho1, h32]
      rw [mhurl_eq hc] at h
      exact nl_thr hW hG3 hs hS3 hw3 hp hd (show sH (uF S p (nI d)) p = some j from ho1.symm) 4 0 (mpos S p) o62 (by omega) hmp.2 (fun j q => mnext_lt hW hmp.2 (eo62.trans q)) (fun M99 hF99 hS99 => by rw [← eo62] at hS99 ⊢; exact h M99 (hF3.tr hF99) hS99)
    · skip
      refine xi_iconst (v := 0) dX10_throwIt_35 rfl ?_
      refine xi_iret (v := 0) dX10_throwIt_36 rfl ?_
      have hc : ¬ mcar G S p 5 = true := by simp [mcar, ← ho1, h32]
      have e : mhurl G S p d = (none, S) := by rw [mhurl, if_neg hc]
      rw [e] at h
      exact h M Fm.rf hS

set_option maxHeartbeats 4000000 in
set_option maxRecDepth 100000 in
theorem nl_take {G : xG} {s : Nat} {Q : Option Value → xM → Prop} (hW : wG G) (hs : s ≤ 56000) {p : Nat} (hp : p < gP G) : ∀ (f n : Nat) (S : xS) (M : xM), n + f = gT G → MG G M → RM G S M s → wS G S → (∀ M2, Fm s M M2 → RM G (mpkL G p n f S) M2 s → Q none M2) → WP shM mX10_take 10 [some (.ref 0), some (.int (nI s)), some (.int (nI p)), some (.int (nI (s + (6 * p)))), some (.int (nI n))] [] M Q := by
  obtain ⟨b1, b2, b3, b4, b5, b6, b7, b8, b9, wmap, wlink, wk0, wk1, b10, b11, wword⟩ := id hW
  intro f
  induction f with
  | zero =>
    intro n S M hf hG hS hw h
    refine xi_iload dX10_take_10 rfl ?_
    refine xi_aload_n dX10_take_12 rfl ?_
    refine xe_getI (v := nI (gT G)) dX10_take_13 fgX10_107 mm0 rfl (mg_T hG) ?_
    refine xn_icmp_ge n (gT G) 123 dX10_take_16 (by decide) rfl rfl (by omega) (by omega) (fun h16 => ?_) (fun h16 => ?_)
    · skip
      refine xi_vret dX10_take_123 rfl ?_
      exact h M Fm.rf hS
    · omega
  | succ f ih =>
    intro n S M hf hG hS hw h
    have hmp := mpos_P hW hw hp
    refine xi_iload dX10_take_10 rfl ?_
    refine xi_aload_n dX10_take_12 rfl ?_
    refine xe_getI (v := nI (gT G)) dX10_take_13 fgX10_107 mm0 rfl (mg_T hG) ?_
    refine xn_icmp_ge n (gT G) 123 dX10_take_16 (by decide) rfl rfl (by omega) (by omega) (fun h16 => ?_) (fun h16 => ?_)
    · omega
    · skip
      refine xi_aload_n dX10_take_19 rfl ?_
      refine xi_getR dX10_take_20 fgX10_39 mm0 rfl ?_
      refine xi_iload_n dX10_take_23 rfl ?_
      refine xi_iconst (v := 4) dX10_take_24 rfl ?_
      refine xe_iadd dX10_take_25 (v := nI (s + (6 * p) + 4)) (nI_add (s + (6 * p)) 4) ?_
      obtain ⟨o1, ho1⟩ : ∃ o, o = sH S p := ⟨_, rfl⟩
      refine xe_iald (v := xo o1) (s + (6 * p) + 4) dX10_take_26 mm5 (by decide) rfl (by omega) (by rw [ho1]; exact rmH hS (by omega)) ?_
      refine xo_if_ge o1 123 dX10_take_27 (by decide) rfl (fun j q => by have := hw.2.2.2.2 p hp j (ho1.symm.trans q); omega) (fun j h27 => ?_) (fun h27 => ?_)
      · subst h27
        refine xi_vret dX10_take_123 rfl ?_
        have e : mpkL G p n (f + 1) S = S := by rw [mpkL, ← ho1]
        exact h M Fm.rf (by rw [e]; exact hS)
      · subst h27
        refine xi_aload_n dX10_take_30 rfl ?_
        refine xi_getR dX10_take_31 fgX10_29 mm0 rfl ?_
        refine xi_iload dX10_take_34 rfl ?_
        have q2 : gkind G n ≤ 7 := hW.kind (by omega)
        refine xe_iald (v := nI (gkind G n)) n dX10_take_36 mm4 (by decide) rfl (by omega) (mg_kind hG (by omega)) ?_
        refine xi_iconst (v := 5) dX10_take_37 rfl ?_
        refine xn_icmp_lt (gkind G n) 5 117 dX10_take_38 (by decide) rfl rfl (by omega) (by omega) (fun h38 => ?_) (fun h38 => ?_)
        · skip
          refine xi_iinc (v := nI (n + 1)) (lv' := [some (.ref 0), some (.int (nI s)), some (.int (nI p)), some (.int (nI (s + (6 * p)))), some (.int (nI (n + 1)))]) dX10_take_117 rfl (xinc n) (by decide) rfl ?_
          refine xi_goto 10 dX10_take_120 (by decide) ?_
          have e : mpkL G p n (f + 1) S = mpkL G p (n + 1) f S := by
            rw [mpkL, ← ho1]
            exact congrArg (mpkL G p (n + 1) f) (if_neg (fun q => by omega))
          exact ih (n + 1) S M (by omega) hG hS hw (fun M99 hF99 hS99 => h M99 (Fm.rf.tr hF99) (by rw [e]; exact hS99))
        · skip
          refine xi_aload_n dX10_take_41 rfl ?_
          refine xi_iload_n dX10_take_42 rfl ?_
          refine xi_iload dX10_take_43 rfl ?_
          refine xi_callV [.int (nI s), .int (nI n)] [] dX10_take_45 zX10_lies mlX10_185 mm0 rfl rfl rfl rfl rfl (Nat.le_of_ble_eq_true rfl) (Nat.le_of_ble_eq_true rfl) ⟨by decide, by decide⟩ ?_
          refine n_lies hW hG hs hS (n := n) (by omega) ?_
          show WP _ _ 48 _ [.int (xb (decide (2 < gkind G n) && decide (0 ≤ sC S n)))] _ _
          refine xb_if_eq (decide (2 < gkind G n) && decide (0 ≤ sC S n)) 117 dX10_take_48 (by decide) rfl (fun h48 => ?_) (fun h48 => ?_)
          · skip
            refine xi_iinc (v := nI (n + 1)) (lv' := [some (.ref 0), some (.int (nI s)), some (.int (nI p)), some (.int (nI (s + (6 * p)))), some (.int (nI (n + 1)))]) dX10_take_117 rfl (xinc n) (by decide) rfl ?_
            refine xi_goto 10 dX10_take_120 (by decide) ?_
            have e : mpkL G p n (f + 1) S = mpkL G p (n + 1) f S := by
              rw [mpkL, ← ho1]
              exact congrArg (mpkL G p (n + 1) f) (if_neg (fun q => by rw [q.2, hmp.1] at h48; simp [show 2 < gkind G n by omega, nI_nn (show mpos S p < 2 ^ 31 by omega)] at h48))
            exact ih (n + 1) S M (by omega) hG hS hw (fun M99 hF99 hS99 => h M99 (Fm.rf.tr hF99) (by rw [e]; exact hS99))
          · skip
            refine xi_aload_n dX10_take_51 rfl ?_
            refine xi_getR dX10_take_52 fgX10_39 mm0 rfl ?_
            refine xi_iload_n dX10_take_55 rfl ?_
            refine xi_bipush (v := 6) dX10_take_56 (by decide) ?_
            refine xi_iload dX10_take_58 rfl ?_
            refine xe_imul dX10_take_60 (v := nI (6 * n)) (pk_mul 6 n) ?_
            refine xe_iadd dX10_take_61 (v := nI (s + (6 * n))) (nI_add s (6 * n)) ?_
            refine xi_iconst (v := 0) dX10_take_62 rfl ?_
            refine xe_iadd dX10_take_63 (v := nI (s + (6 * n) + 0)) (nI_add (s + (6 * n)) 0) ?_
            refine xe_iald (v := sC S n) (s + (6 * n) + 0) dX10_take_64 mm5 (by decide) rfl (by omega) (rmC hS (by omega)) ?_
            refine xi_aload_n dX10_take_65 rfl ?_
            refine xat 66 rfl ?_
            refine xi_getR dX10_take_66 fgX10_39 mm0 rfl ?_
            refine xi_iload_n dX10_take_69 rfl ?_
            refine xi_iconst (v := 0) dX10_take_70 rfl ?_
            refine xe_iadd dX10_take_71 (v := nI (s + (6 * p) + 0)) (nI_add (s + (6 * p)) 0) ?_
            refine xe_iald (v := sC S p) (s + (6 * p) + 0) dX10_take_72 mm5 (by decide) rfl (by omega) (rmC hS (by omega)) ?_
            refine xi_icmp_ne 117 dX10_take_73 (by decide) (fun h73 => ?_) (fun h73 => ?_)
            · skip
              refine xi_iinc (v := nI (n + 1)) (lv' := [some (.ref 0), some (.int (nI s)), some (.int (nI p)), some (.int (nI (s + (6 * p)))), some (.int (nI (n + 1)))]) dX10_take_117 rfl (xinc n) (by decide) rfl ?_
              refine xi_goto 10 dX10_take_120 (by decide) ?_
              have e : mpkL G p n (f + 1) S = mpkL G p (n + 1) f S := by
                rw [mpkL, ← ho1]
                exact congrArg (mpkL G p (n + 1) f) (if_neg (fun q => h73 q.2))
              exact ih (n + 1) S M (by omega) hG hS hw (fun M99 hF99 hS99 => h M99 (Fm.rf.tr hF99) (by rw [e]; exact hS99))
            · skip
              refine xi_aload_n dX10_take_76 rfl ?_
              refine xi_getR dX10_take_77 fgX10_39 mm0 rfl ?_
              refine xi_iload_n dX10_take_80 rfl ?_
              refine xi_iconst (v := 4) dX10_take_81 rfl ?_
              refine xe_iadd dX10_take_82 (v := nI (s + (6 * p) + 4)) (nI_add (s + (6 * p)) 4) ?_
              refine xi_iload dX10_take_83 rfl ?_
              refine xe_iast (s + (6 * p) + 4) dX10_take_85 mm5 (by decide) rfl (by omega) ?_
              generalize eM5 : (xa M 5 (upd (M.2.1 5) (s + (6 * p) + 4) (nI n))) = M5
              have hS5 : RM G (uH S p (some n)) M5 s := by rw [← eM5]; exact rmuH hW hS (by omega) (some n)
              have hF5 : Fm s M M5 := by rw [← eM5]; exact Fm.xa (by omega) (by omega)
              have hG5 : MG G M5 := MG.fm hG hF5
              have hw5 : wS G (uH S p (some n)) := (wS_uH hw (fun j q => by cases q; exact ⟨by omega, by omega⟩))
              refine xi_aload_n dX10_take_86 rfl ?_
              refine xi_getR dX10_take_87 fgX10_39 mm0 rfl ?_
              refine xi_iload_n dX10_take_90 rfl ?_
              refine xi_bipush (v := 6) dX10_take_91 (by decide) ?_
              refine xat 93 rfl ?_
              refine xi_iload dX10_take_93 rfl ?_
              refine xe_imul dX10_take_95 (v := nI (6 * n)) (pk_mul 6 n) ?_
              refine xe_iadd dX10_take_96 (v := nI (s + (6 * n))) (nI_add s (6 * n)) ?_
              refine xi_iconst (v := 5) dX10_take_97 rfl ?_
              refine xe_iadd dX10_take_98 (v := nI (s + (6 * n) + 5)) (nI_add (s + (6 * n)) 5) ?_
              refine xi_iload_n dX10_take_99 rfl ?_
              refine xe_iast (s + (6 * n) + 5) dX10_take_100 mm5 (by decide) rfl (by omega) ?_
              generalize eM6 : (xa M5 5 (upd (M5.2.1 5) (s + (6 * n) + 5) (nI p))) = M6
              have hS6 : RM G (uB (uH S p (some n)) n (some p)) M6 s := by rw [← eM6]; exact rmuB hW hS5 (by omega) (some p)
              have hF6 : Fm s M5 M6 := by rw [← eM6]; exact Fm.xa (by omega) (by omega)
              have hG6 : MG G M6 := MG.fm hG5 hF6
              have hw6 : wS G (uB (uH S p (some n)) n (some p)) := (wS_uB hw5)
              refine xi_aload_n dX10_take_101 rfl ?_
              refine xi_getR dX10_take_102 fgX10_39 mm0 rfl ?_
              refine xi_iload_n dX10_take_105 rfl ?_
              refine xi_bipush (v := 6) dX10_take_106 (by decide) ?_
              refine xi_iload dX10_take_108 rfl ?_
              refine xat 110 rfl ?_
              refine xe_imul dX10_take_110 (v := nI (6 * n)) (pk_mul 6 n) ?_
              refine xe_iadd dX10_take_111 (v := nI (s + (6 * n))) (nI_add s (6 * n)) ?_
              refine xi_iconst (v := 0) dX10_take_112 rfl ?_
              refine xe_iadd dX10_take_113 (v := nI (s + (6 * n) + 0)) (nI_add (s + (6 * n)) 0) ?_
              refine xi_bipush (v := (-2)) dX10_take_114 (by decide) ?_
              refine xe_iast (s + (6 * n) + 0) dX10_take_116 mm5 (by decide) rfl (by omega) ?_
              generalize eM7 : (xa M6 5 (upd (M6.2.1 5) (s + (6 * n) + 0) (-2))) = M7
              have hS7 : RM G (uC (uB (uH S p (some n)) n (some p)) n (-2)) M7 s := by rw [← eM7]; exact rmuC hW hS6 (by omega) (-2)
              have hF7 : Fm s M6 M7 := by rw [← eM7]; exact Fm.xa (by omega) (by omega)
              have hG7 : MG G M7 := MG.fm hG6 hF7
              have hw7 : wS G (uC (uB (uH S p (some n)) n (some p)) n (-2)) := (wS_uC_it hw6 (by omega))
              refine xi_iinc (v := nI (n + 1)) (lv' := [some (.ref 0), some (.int (nI s)), some (.int (nI p)), some (.int (nI (s + (6 * p)))), some (.int (nI (n + 1)))]) dX10_take_117 rfl (xinc n) (by decide) rfl ?_
              refine xi_goto 10 dX10_take_120 (by decide) ?_
              have e : mpkL G p n (f + 1) S = mpkL G p (n + 1) f (uC (uB (uH S p (some n)) n (some p)) n (-2)) := by
                rw [mpkL, ← ho1]
                exact congrArg (mpkL G p (n + 1) f) (if_pos ⟨h38, h73⟩)
              exact ih (n + 1) (uC (uB (uH S p (some n)) n (some p)) n (-2)) M7 (by omega) hG7 hS7 hw7 (fun M99 hF99 hS99 => h M99 (((hF5.tr hF6).tr hF7).tr hF99) (by rw [e]; exact hS99))

set_option maxHeartbeats 4000000 in
set_option maxRecDepth 100000 in
theorem n_take {G : xG} {S : xS} {M : xM} {s : Nat} {Q : Option Value → xM → Prop} (hW : wG G) (hG : MG G M) (hs : s ≤ 56000) (hS : RM G S M s) (hw : wS G S) {p : Nat} (hp : p < gP G) (h : ∀ M2, Fm s M M2 → RM G (mpk G S p) M2 s → Q none M2) : WP shM mX10_take 0 [some (.ref 0), some (.int (nI s)), some (.int (nI p)), none, none] [] M Q := by
  obtain ⟨b1, b2, b3, b4, b5, b6, b7, b8, b9, wmap, wlink, wk0, wk1, b10, b11, wword⟩ := id hW
  refine xi_iload_n dX10_take_0 rfl ?_
  refine xi_bipush (v := 6) dX10_take_1 (by decide) ?_
  refine xi_iload_n dX10_take_3 rfl ?_
  refine xe_imul dX10_take_4 (v := nI (6 * p)) (pk_mul 6 p) ?_
  refine xe_iadd dX10_take_5 (v := nI (s + (6 * p))) (nI_add s (6 * p)) ?_
  refine xi_istore_n (lv' := [some (.ref 0), some (.int (nI s)), some (.int (nI p)), some (.int (nI (s + (6 * p)))), none]) dX10_take_6 (by decide) rfl ?_
  refine xi_iconst (v := 0) dX10_take_7 rfl ?_
  refine xi_istore (lv' := [some (.ref 0), some (.int (nI s)), some (.int (nI p)), some (.int (nI (s + (6 * p)))), some (.int 0)]) dX10_take_8 (by decide) rfl ?_
  exact nl_take hW hs hp (gT G) 0 S M (by omega) hG hS hw h

