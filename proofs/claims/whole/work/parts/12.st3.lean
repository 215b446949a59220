def mthr (G : xG) (S : xS) (p : Nat) (q : Nat × Option Nat) : xS := match q.2 with
  | none => mlet S p (nI q.1)
  | some n => mhurt G (mlet S p (nI q.1)) n 1
theorem mhurl_eq {G : xG} {S : xS} {p d : Nat} (h : mcar G S p 5 = true) : mhurl G S p d = ((mfly G (uF S p (nI d)) d 4 (mpos S p) (mnext G (mpos S p) d)).2, mthr G (uF S p (nI d)) p (mfly G (uF S p (nI d)) d 4 (mpos S p) (mnext G (mpos S p) d))) := by
  unfold mhurl
  rw [if_pos h]
  generalize mfly G (uF S p (nI d)) d 4 (mpos S p) (mnext G (mpos S p) d) = q
  obtain ⟨l, v⟩ := q
  cases v <;> rfl
/-- a thing of n stands or lies in k -/
def mat (G : xG) (S : xS) (n k : Nat) : Bool := decide (sC S n = nI k) && (decide (2 < gkind G n) || decide (0 < sL S n))
def mlook (G : xG) (S : xS) (k : Nat) : Nat := if gmap G k = 2 ∧ ¬ sO S (glink G k) = 0 then 4 else gmap G k
def mhasF (c : Nat → Int32) (k : Int32) : Nat → Nat → Bool
  | _, 0 => false
  | n, f + 1 => if c n = k then true else mhasF c k (n + 1) f
def mhas (G : xG) (S : xS) (k : Nat) : Bool := mhasF (sC S) (nI k) 0 (gT G)
set_option maxHeartbeats 4000000 in
set_option maxRecDepth 100000 in
theorem l_shoot {G : xG} {S : xS} {M : xM} {r : Nat} {Q : Option Value → xM → Prop} (hW : wG G) (hG : CG G M) (hr : isSt r) (hS : CS G S M r) (hw : wS G S) {p d : Nat} (hd : d < 4) : ∀ (f i : Nat) (o : Option Nat), i + f = 7 → (∀ k, o = some k → k < gN G) → (mline G S d f o = none → Q (some (.int 0)) M) → (∀ n M2, mline G S d f o = some n → Fr r M M2 → CS G (mhurt G S n 1) M2 r → Q (some (.int (nI (n + 1)))) M2) → WP shC mX6_shoot 43 [some (.ref r), some (.int (nI p)), some (.int (nI d)), some (.int (xo o)), some (.int (nI i)), none] [] M Q := by
  obtain ⟨b1, b2, b3, b4, b5, b6, b7, b8, b9, wmap, wlink, wk0, wk1, b10, b11, wword⟩ := id hW
  intro f
  induction f with
  | zero =>
    intro i o hf ho hn hs
    refine xi_iload dX6_shoot_43 rfl ?_
    refine xi_bipush (v := 7) dX6_shoot_45 (by decide) ?_
    refine xn_icmp_ge i 7 102 dX6_shoot_47 (by decide) rfl rfl (by omega) (by omega) (fun h47 => ?_) (fun h47 => ?_)
    · skip
      refine xi_iconst (v := 0) dX6_shoot_102 rfl ?_
      refine xi_iret (v := 0) dX6_shoot_103 rfl ?_
      exact hn rfl
    · omega
  | succ f ih =>
    intro i o hf ho hn hs
    refine xi_iload dX6_shoot_43 rfl ?_
    refine xi_bipush (v := 7) dX6_shoot_45 (by decide) ?_
    refine xn_icmp_ge i 7 102 dX6_shoot_47 (by decide) rfl rfl (by omega) (by omega) (fun h47 => ?_) (fun h47 => ?_)
    · omega
    · skip
      refine xi_iload_n dX6_shoot_50 rfl ?_
      refine xo_if_lt o 102 dX6_shoot_51 (by decide) rfl (fun k q => by have := ho k q; omega) (fun h51 => ?_) (fun k h51 => ?_)
      · subst h51
        refine xi_iconst (v := 0) dX6_shoot_102 rfl ?_
        refine xi_iret (v := 0) dX6_shoot_103 rfl ?_
        exact hn rfl
      · subst h51
        have hk := ho k rfl
        refine xi_aload_n dX6_shoot_54 rfl ?_
        refine xi_iload_n dX6_shoot_55 rfl ?_
        refine xi_callV [.int (xo (some k))] [] dX6_shoot_56 zX6_bars mlX6_84 (so hr) rfl rfl rfl rfl rfl (Nat.le_of_ble_eq_true rfl) (Nat.le_of_ble_eq_true rfl) ⟨by decide, by decide⟩ ?_
        refine s_bars hW hG hr hS (k := k) (by omega) ?_
        show WP _ _ 59 _ [.int (xb (mbars G S k))] _ _
        refine xb_if_ne (mbars G S k) 102 dX6_shoot_59 (by decide) rfl (fun h59 => ?_) (fun h59 => ?_)
        · skip
          refine xi_iconst (v := 0) dX6_shoot_102 rfl ?_
          refine xi_iret (v := 0) dX6_shoot_103 rfl ?_
          exact hn (by rw [mline, if_pos h59])
        · skip
          refine xi_aload_n dX6_shoot_62 rfl ?_
          refine xi_iload_n dX6_shoot_63 rfl ?_
          refine xi_callV [.int (xo (some k))] [] dX6_shoot_64 zX6_standingIn mlX6_88 (so hr) rfl rfl rfl rfl rfl (Nat.le_of_ble_eq_true rfl) (Nat.le_of_ble_eq_true rfl) ⟨by decide, by decide⟩ ?_
          refine s_stand hW hG hr hS hw (k := k) ?_
          show WP _ _ 67 _ [.int (xo (mstand G S k))] _ _
          generalize eo64 : mstand G S k = o64
          refine xi_istore (lv' := [some (.ref r), some (.int (nI p)), some (.int (nI d)), some (.int (xo (some k))), some (.int (nI i)), some (.int (xo o64))]) dX6_shoot_67 (by decide) rfl ?_
          refine xi_iload dX6_shoot_69 rfl ?_
          refine xo_if_lt o64 86 dX6_shoot_71 (by decide) rfl (fun m q => by have := mstand_lt (eo64.trans q); omega) (fun h71 => ?_) (fun m h71 => ?_)
          · subst h71
            refine xi_aload_n dX6_shoot_86 rfl ?_
            refine xi_getR dX6_shoot_87 fgX6_39 (so hr) rfl ?_
            refine xi_iload_n dX6_shoot_90 rfl ?_
            refine xi_iload_n dX6_shoot_91 rfl ?_
            refine xi_callV [.int (xo (some k)), .int (nI d)] [] dX6_shoot_92 zX1_nextTo mlX6_146 cc1 rfl rfl rfl rfl rfl (Nat.le_of_ble_eq_true rfl) (Nat.le_of_ble_eq_true rfl) ⟨by decide, by decide⟩ ?_
            refine g_next hW hG (k := k) (d := d) (by omega) (by omega) ?_
            show WP _ _ 95 _ [.int (xo (mnext G k d))] _ _
            generalize eo92 : mnext G k d = o92
            refine xi_istore_n (lv' := [some (.ref r), some (.int (nI p)), some (.int (nI d)), some (.int (xo o92)), some (.int (nI i)), some (.int (xo none))]) dX6_shoot_95 (by decide) rfl ?_
            refine xi_iinc (v := nI (i + 1)) (lv' := [some (.ref r), some (.int (nI p)), some (.int (nI d)), some (.int (xo o92)), some (.int (nI (i + 1))), some (.int (xo none))]) dX6_shoot_96 rfl (xinc i) (by decide) rfl ?_
            refine xi_goto 43 dX6_shoot_99 (by decide) ?_
            refine xi_drop [true, true, true, true, true, false] rfl ?_
            have e : mline G S d (f + 1) (some k) = mline G S d f o92 := by rw [mline, if_neg (by simp [h59]), eo64, eo92]
            rw [e] at hn hs
            exact ih (i + 1) o92 (by omega) (fun j q => mnext_lt hW hk (eo92.trans q)) hn hs
          · subst h71
            have hm := mstand_lt eo64
            refine xi_aload_n dX6_shoot_74 rfl ?_
            refine xi_iload dX6_shoot_75 rfl ?_
            refine xi_iconst (v := 1) dX6_shoot_77 rfl ?_
            refine xi_callV [.int (xo (some m)), .int 1] [] dX6_shoot_78 zX6_hurt mlX6_203 (so hr) rfl rfl rfl rfl rfl (Nat.le_of_ble_eq_true rfl) (Nat.le_of_ble_eq_true rfl) ⟨by decide, by decide⟩ ?_
            refine s_hurt hW hG hr hS hw (n := m) (l := 1) (by omega) (by omega) (fun M1 hF1 hS1 => ?_)
            have hG1 : CG G M1 := CG.fr hG hr hF1
            have hw1 : wS G (mhurt G S m 1) := wS_hurt hw (by omega)
            show WP _ _ 81 _ [] _ _
            refine xi_iload dX6_shoot_81 rfl ?_
            refine xi_iconst (v := 1) dX6_shoot_83 rfl ?_
            refine xe_iadd dX6_shoot_84 (v := nI (m + 1)) (nI_add m 1) ?_
            refine xi_iret (v := nI (m + 1)) dX6_shoot_85 rfl ?_
            exact hs m M1 (by rw [mline, if_neg (by simp [h59]), eo64]) hF1 hS1

set_option maxHeartbeats 4000000 in
set_option maxRecDepth 100000 in
theorem s_shoot {G : xG} {S : xS} {M : xM} {r : Nat} {Q : Option Value → xM → Prop} (hW : wG G) (hG : CG G M) (hr : isSt r) (hS : CS G S M r) (hw : wS G S) {p d : Nat} (hp : p < gP G) (hd : d < 4) (h : ∀ M2, Fr r M M2 → CS G (mshoot G S p d).2 M2 r → Q (some (.int (nI (mhit (mshoot G S p d).1)))) M2) : WP shC mX6_shoot 0 [some (.ref r), some (.int (nI p)), some (.int (nI d)), none, none, none] [] M Q := by
  obtain ⟨b1, b2, b3, b4, b5, b6, b7, b8, b9, wmap, wlink, wk0, wk1, b10, b11, wword⟩ := id hW
  have hmp := mpos_P hW hw hp
  refine xi_aload_n dX6_shoot_0 rfl ?_
  refine xi_getR dX6_shoot_1 fgX6_24 (so hr) rfl ?_
  refine xi_iload_n dX6_shoot_4 rfl ?_
  have q1 := (hw).2.2.2.1 p (by omega)
  refine xe_iald (v := nI (sR S p)) p dX6_shoot_5 (sa5 hr) (by decide) rfl (by omega) (csR hS (by omega)) ?_
  refine xn_if_eq (sR S p) 11 dX6_shoot_6 (by decide) rfl (by omega) (fun h6 => ?_) (fun h6 => ?_)
  · skip
    refine xi_aload_n dX6_shoot_11 rfl ?_
    refine xi_getR dX6_shoot_12 fgX6_21 (so hr) rfl ?_
    refine xi_iload_n dX6_shoot_15 rfl ?_
    refine xi_iload_n dX6_shoot_16 rfl ?_
    refine xe_iast p dX6_shoot_17 (sa4 hr) (by decide) rfl (by omega) ?_
    generalize eM2 : (xa M (r + 4) (upd (M.2.1 (r + 4)) p (nI d))) = M2
    have hS2 : CS G (uF S p (nI d)) M2 r := by rw [← eM2]; exact csuF hS p (nI d)
    have hF2 : Fr r M M2 := by rw [← eM2]; exact Fr.xa (by decide) (by decide)
    have hG2 : CG G M2 := CG.fr hG hr hF2
    have hw2 : wS G (uF S p (nI d)) := (wS_uF hw)
    refine xi_aload_n dX6_shoot_18 rfl ?_
    refine xi_getR dX6_shoot_19 fgX6_24 (so hr) rfl ?_
    refine xi_iload_n dX6_shoot_22 rfl ?_
    refine xi_iconst (v := 3) dX6_shoot_23 rfl ?_
    refine xe_iast p dX6_shoot_24 (sa5 hr) (by decide) rfl (by omega) ?_
    generalize eM3 : (xa M2 (r + 5) (upd (M2.2.1 (r + 5)) p 3)) = M3
    have hS3 : CS G (uR (uF S p (nI d)) p 3) M3 r := by rw [← eM3]; exact csuR hS2 p 3
    have hF3 : Fr r M2 M3 := by rw [← eM3]; exact Fr.xa (by decide) (by decide)
    have hG3 : CG G M3 := CG.fr hG2 hr hF3
    have hw3 : wS G (uR (uF S p (nI d)) p 3) := (wS_uR hw2 (by omega))
    refine xi_aload_n dX6_shoot_25 rfl ?_
    refine xat 26 rfl ?_
    refine xi_getR dX6_shoot_26 fgX6_39 (so hr) rfl ?_
    refine xi_aload_n dX6_shoot_29 rfl ?_
    refine xi_getR dX6_shoot_30 fgX6_9 (so hr) rfl ?_
    refine xi_iload_n dX6_shoot_33 rfl ?_
    refine xe_iald (v := nI (mpos S p)) p dX6_shoot_34 (sa1 hr) (by decide) rfl (by omega) ((csC hS3 (by omega)).trans hmp.1) ?_
    refine xi_iload_n dX6_shoot_35 rfl ?_
    refine xi_callV [.int (nI (mpos S p)), .int (nI d)] [] dX6_shoot_36 zX1_nextTo mlX6_146 cc1 rfl rfl rfl rfl rfl (Nat.le_of_ble_eq_true rfl) (Nat.le_of_ble_eq_true rfl) ⟨by decide, by decide⟩ ?_
    refine g_next hW hG3 (k := mpos S p) (d := d) (by omega) (by omega) ?_
    show WP _ _ 39 _ [.int (xo (mnext G (mpos S p) d))] _ _
    generalize eo36 : mnext G (mpos S p) d = o36
    refine xi_istore_n (lv' := [some (.ref r), some (.int (nI p)), some (.int (nI d)), some (.int (xo o36)), none, none]) dX6_shoot_39 (by decide) rfl ?_
    refine xi_iconst (v := 0) dX6_shoot_40 rfl ?_
    refine xi_istore (lv' := [some (.ref r), some (.int (nI p)), some (.int (nI d)), some (.int (xo o36)), some (.int 0), none]) dX6_shoot_41 (by decide) rfl ?_
    refine l_shoot hW hG3 hr hS3 hw3 hd 7 0 o36 (by omega) (fun j q => mnext_lt hW hmp.2 (eo36.trans q)) (fun q => ?_) (fun n M9 q hF9 hS9 => ?_)
    · have e : mshoot G S p d = (none, (uR (uF S p (nI d)) p 3)) := by rw [mshoot, if_pos h6, eo36, q]
      rw [e] at h
      exact h M3 (hF2.tr hF3) hS3
    · have e : mshoot G S p d = (some n, mhurt G (uR (uF S p (nI d)) p 3) n 1) := by rw [mshoot, if_pos h6, eo36, q]
      rw [e] at h
      exact h M9 ((hF2.tr hF3).tr hF9) hS9
  · skip
    refine xi_iconst (v := 0) dX6_shoot_9 rfl ?_
    refine xi_iret (v := 0) dX6_shoot_10 rfl ?_
    have e : mshoot G S p d = (none, S) := by rw [mshoot, if_neg h6]
    rw [e] at h
    exact h M Fr.rf hS

set_option maxHeartbeats 4000000 in
set_option maxRecDepth 100000 in
theorem l_hurlX {G : xG} {S : xS} {M : xM} {r : Nat} {Q : Option Value → xM → Prop} (hW : wG G) (hG : CG G M) (hr : isSt r) (hS : CS G S M r) (hw : wS G S) {p d l : Nat} {v : Option Nat} (hp : p < gP G) (hl : l < gN G) (hv : ∀ m, v = some m → m < gT G) (h : ∀ M2, Fr r M M2 → CS G (mthr G S p (l, v)) M2 r → Q (some (.int (nI (mhit v)))) M2) : WP shC mX6_hurl 96 [some (.ref r), some (.int (nI p)), some (.int (nI d)), some (.int (nI l)), some (.int (xo v)), none, none] [] M Q := by
  obtain ⟨b1, b2, b3, b4, b5, b6, b7, b8, b9, wmap, wlink, wk0, wk1, b10, b11, wword⟩ := id hW
  refine xi_aload_n dX6_hurl_96 rfl ?_
  refine xi_iload_n dX6_hurl_97 rfl ?_
  refine xi_iload_n dX6_hurl_98 rfl ?_
  refine xi_callV [.int (nI p), .int (nI l)] [] dX6_hurl_99 zX6_letGo mlX6_194 (so hr) rfl rfl rfl rfl rfl (Nat.le_of_ble_eq_true rfl) (Nat.le_of_ble_eq_true rfl) ⟨by decide, by decide⟩ ?_
  refine s_let hW hG hr hS hw (p := p) (c := nI l) (by omega) (fun M1 hF1 hS1 => ?_)
  have hG1 : CG G M1 := CG.fr hG hr hF1
  have hw1 : wS G (mlet S p (nI l)) := wS_let hw (by omega)
  show WP _ _ 102 _ [] _ _
  refine xi_iload dX6_hurl_102 rfl ?_
  refine xo_if_lt v 114 dX6_hurl_104 (by decide) rfl (fun m q => by have := hv m q; omega) (fun h104 => ?_) (fun m h104 => ?_)
  · subst h104
    refine xi_iload dX6_hurl_114 rfl ?_
    refine xi_iconst (v := 1) dX6_hurl_116 rfl ?_
    refine xe_iadd dX6_hurl_117 (v := nI 0) rfl ?_
    refine xi_iret (v := nI 0) dX6_hurl_118 rfl ?_
    exact h M1 hF1 hS1
  · subst h104
    have hm := hv m rfl
    refine xi_aload_n dX6_hurl_107 rfl ?_
    refine xi_iload dX6_hurl_108 rfl ?_
    refine xi_iconst (v := 1) dX6_hurl_110 rfl ?_
    refine xi_callV [.int (xo (some m)), .int 1] [] dX6_hurl_111 zX6_hurt mlX6_203 (so hr) rfl rfl rfl rfl rfl (Nat.le_of_ble_eq_true rfl) (Nat.le_of_ble_eq_true rfl) ⟨by decide, by decide⟩ ?_
    refine s_hurt hW hG1 hr hS1 hw1 (n := m) (l := 1) (by omega) (by omega) (fun M2 hF2 hS2 => ?_)
    have hG2 : CG G M2 := CG.fr hG1 hr hF2
    have hw2 : wS G (mhurt G (mlet S p (nI l)) m 1) := wS_hurt hw1 (by omega)
    show WP _ _ 114 _ [] _ _
    refine xi_iload dX6_hurl_114 rfl ?_
    refine xi_iconst (v := 1) dX6_hurl_116 rfl ?_
    refine xe_iadd dX6_hurl_117 (v := nI (m + 1)) (nI_add m 1) ?_
    refine xi_iret (v := nI (m + 1)) dX6_hurl_118 rfl ?_
    exact h M2 (hF1.tr hF2) hS2

set_option maxHeartbeats 4000000 in
set_option maxRecDepth 100000 in
theorem l_hurl {G : xG} {S : xS} {M : xM} {r : Nat} {Q : Option Value → xM → Prop} (hW : wG G) (hG : CG G M) (hr : isSt r) (hS : CS G S M r) (hw : wS G S) {p d : Nat} (hp : p < gP G) (hd : d < 4) : ∀ (f i l : Nat) (o : Option Nat), i + f = 4 → l < gN G → (∀ k, o = some k → k < gN G) → (∀ M2, Fr r M M2 → CS G (mthr G S p (mfly G S d f l o)) M2 r → Q (some (.int (nI (mhit (mfly G S d f l o).2)))) M2) → WP shC mX6_hurl 42 [some (.ref r), some (.int (nI p)), some (.int (nI d)), some (.int (nI l)), some (.int (xo none)), some (.int (xo o)), some (.int (nI i))] [] M Q := by
  obtain ⟨b1, b2, b3, b4, b5, b6, b7, b8, b9, wmap, wlink, wk0, wk1, b10, b11, wword⟩ := id hW
  intro f
  induction f with
  | zero =>
    intro i l o hf hl ho h
    refine xi_iload dX6_hurl_42 rfl ?_
    refine xi_iconst (v := 4) dX6_hurl_44 rfl ?_
    refine xn_icmp_ge i 4 96 dX6_hurl_45 (by decide) rfl rfl (by omega) (by omega) (fun h45 => ?_) (fun h45 => ?_)
    · skip
      refine xi_drop [true, true, true, true, true, false, false] rfl ?_
      have e : mfly G S d 0 l o = (l, none) := rfl
      rw [e] at h
      exact l_hurlX hW hG hr hS hw hp hl (fun m q => by cases q) h
    · omega
  | succ f ih =>
    intro i l o hf hl ho h
    refine xi_iload dX6_hurl_42 rfl ?_
    refine xi_iconst (v := 4) dX6_hurl_44 rfl ?_
    refine xn_icmp_ge i 4 96 dX6_hurl_45 (by decide) rfl rfl (by omega) (by omega) (fun h45 => ?_) (fun h45 => ?_)
    · omega
    · skip
      refine xi_iload dX6_hurl_48 rfl ?_
      refine xi_if_ge 96 dX6_hurl_50 (by decide) (fun z => absurd z (by decide)) (fun _ => ?_)
      refine xi_iload dX6_hurl_53 rfl ?_
      refine xo_if_lt o 96 dX6_hurl_55 (by decide) rfl (fun k q => by have := ho k q; omega) (fun h55 => ?_) (fun k h55 => ?_)
      · subst h55
        refine xi_drop [true, true, true, true, true, false, false] rfl ?_
        have e : mfly G S d (f + 1) l none = (l, none) := rfl
        rw [e] at h
        exact l_hurlX hW hG hr hS hw hp hl (fun m q => by cases q) h
      · subst h55
        have hk := ho k rfl
        refine xi_aload_n dX6_hurl_58 rfl ?_
        refine xi_iload dX6_hurl_59 rfl ?_
        refine xi_callV [.int (xo (some k))] [] dX6_hurl_61 zX6_bars mlX6_84 (so hr) rfl rfl rfl rfl rfl (Nat.le_of_ble_eq_true rfl) (Nat.le_of_ble_eq_true rfl) ⟨by decide, by decide⟩ ?_
        refine s_bars hW hG hr hS (k := k) (by omega) ?_
        show WP _ _ 64 _ [.int (xb (mbars G S k))] _ _
        refine xb_if_ne (mbars G S k) 96 dX6_hurl_64 (by decide) rfl (fun h64 => ?_) (fun h64 => ?_)
        · skip
          refine xi_drop [true, true, true, true, true, false, false] rfl ?_
          have e : mfly G S d (f + 1) l (some k) = (l, none) := by rw [mfly, if_pos h64]
          rw [e] at h
          exact l_hurlX hW hG hr hS hw hp hl (fun m q => by cases q) h
        · skip
          refine xi_iload dX6_hurl_67 rfl ?_
          refine xi_istore_n (lv' := [some (.ref r), some (.int (nI p)), some (.int (nI d)), some (.int (xo (some k))), some (.int (xo none)), some (.int (xo (some k))), some (.int (nI i))]) dX6_hurl_69 (by decide) rfl ?_
          refine xi_aload_n dX6_hurl_70 rfl ?_
          refine xi_iload dX6_hurl_71 rfl ?_
          refine xi_callV [.int (xo (some k))] [] dX6_hurl_73 zX6_standingIn mlX6_88 (so hr) rfl rfl rfl rfl rfl (Nat.le_of_ble_eq_true rfl) (Nat.le_of_ble_eq_true rfl) ⟨by decide, by decide⟩ ?_
          refine s_stand hW hG hr hS hw (k := k) ?_
          show WP _ _ 76 _ [.int (xo (mstand G S k))] _ _
          generalize eo73 : mstand G S k = o73
          rcases o73 with _ | m
          · skip
            refine xi_istore (lv' := [some (.ref r), some (.int (nI p)), some (.int (nI d)), some (.int (xo (some k))), some (.int (xo none)), some (.int (xo (some k))), some (.int (nI i))]) dX6_hurl_76 (by decide) rfl ?_
            refine xi_aload_n dX6_hurl_78 rfl ?_
            refine xi_getR dX6_hurl_79 fgX6_39 (so hr) rfl ?_
            refine xi_iload dX6_hurl_82 rfl ?_
            refine xi_iload_n dX6_hurl_84 rfl ?_
            refine xi_callV [.int (xo (some k)), .int (nI d)] [] dX6_hurl_85 zX1_nextTo mlX6_146 cc1 rfl rfl rfl rfl rfl (Nat.le_of_ble_eq_true rfl) (Nat.le_of_ble_eq_true rfl) ⟨by decide, by decide⟩ ?_
            refine g_next hW hG (k := k) (d := d) (by omega) (by omega) ?_
            show WP _ _ 88 _ [.int (xo (mnext G k d))] _ _
            generalize eo85 : mnext G k d = o85
            refine xi_istore (lv' := [some (.ref r), some (.int (nI p)), some (.int (nI d)), some (.int (xo (some k))), some (.int (xo none)), some (.int (xo o85)), some (.int (nI i))]) dX6_hurl_88 (by decide) rfl ?_
            refine xi_iinc (v := nI (i + 1)) (lv' := [some (.ref r), some (.int (nI p)), some (.int (nI d)), some (.int (xo (some k))), some (.int (xo none)), some (.int (xo o85)), some (.int (nI (i + 1)))]) dX6_hurl_90 rfl (xinc i) (by decide) rfl ?_
            refine xi_goto 42 dX6_hurl_93 (by decide) ?_
            have e : mfly G S d (f + 1) l (some k) = mfly G S d f k o85 := by rw [mfly, if_neg (by simp [h64]), eo73, eo85]
            rw [e] at h
            exact ih (i + 1) k o85 (by omega) hk (fun j q => mnext_lt hW hk (eo85.trans q)) h
          · skip
            refine xi_istore (lv' := [some (.ref r), some (.int (nI p)), some (.int (nI d)), some (.int (xo (some k))), some (.int (xo (some m))), some (.int (xo (some k))), some (.int (nI i))]) dX6_hurl_76 (by decide) rfl ?_
            refine xi_aload_n dX6_hurl_78 rfl ?_
            refine xi_getR dX6_hurl_79 fgX6_39 (so hr) rfl ?_
            refine xi_iload dX6_hurl_82 rfl ?_
            refine xi_iload_n dX6_hurl_84 rfl ?_
            refine xi_callV [.int (xo (some k)), .int (nI d)] [] dX6_hurl_85 zX1_nextTo mlX6_146 cc1 rfl rfl rfl rfl rfl (Nat.le_of_ble_eq_true rfl) (Nat.le_of_ble_eq_true rfl) ⟨by decide, by decide⟩ ?_
            refine g_next hW hG (k := k) (d := d) (by omega) (by omega) ?_
            show WP _ _ 88 _ [.int (xo (mnext G k d))] _ _
            generalize eo85 : mnext G k d = o85
            refine xi_istore (lv' := [some (.ref r), some (.int (nI p)), some (.int (nI d)), some (.int (xo (some k))), some (.int (xo (some m))), some (.int (xo o85)), some (.int (nI i))]) dX6_hurl_88 (by decide) rfl ?_
            refine xi_iinc (v := nI (i + 1)) (lv' := [some (.ref r), some (.int (nI p)), some (.int (nI d)), some (.int (xo (some k))), some (.int (xo (some m))), some (.int (xo o85)), some (.int (nI (i + 1)))]) dX6_hurl_90 rfl (xinc i) (by decide) rfl ?_
            refine xi_goto 42 dX6_hurl_93 (by decide) ?_
            have hm := mstand_lt eo73
            have e : mfly G S d (f + 1) l (some k) = (k, some m) := by rw [mfly, if_neg (by simp [h64]), eo73]
            rw [e] at h
            refine xi_iload dX6_hurl_42 rfl ?_
            refine xi_iconst (v := 4) dX6_hurl_44 rfl ?_
            refine xn_icmp_ge (i + 1) 4 96 dX6_hurl_45 (by decide) rfl rfl (by omega) (by omega) (fun h45 => ?_) (fun h45 => ?_)
            · skip
              refine xi_drop [true, true, true, true, true, false, false] rfl ?_
              exact l_hurlX hW hG hr hS hw hp hk (fun j q => by cases q; exact hm.1) h
            · skip
              refine xi_iload dX6_hurl_48 rfl ?_
              refine xn_if_ge m 96 dX6_hurl_50 (by decide) rfl (by omega) ?_
              refine xi_drop [true, true, true, true, true, false, false] rfl ?_
              exact l_hurlX hW hG hr hS hw hp hk (fun j q => by cases q; exact hm.1) h

set_option maxHeartbeats 4000000 in
set_option maxRecDepth 100000 in
theorem s_hurl {G : xG} {S : xS} {M : xM} {r : Nat} {Q : Option Value → xM → Prop} (hW : wG G) (hG : CG G M) (hr : isSt r) (hS : CS G S M r) (hw : wS G S) {p d : Nat} (hp : p < gP G) (hd : d < 4) (h : ∀ M2, Fr r M M2 → CS G (mhurl G S p d).2 M2 r → Q (some (.int (nI (mhit (mhurl G S p d).1)))) M2) : WP shC mX6_hurl 0 [some (.ref r), some (.int (nI p)), some (.int (nI d)), none, none, none, none] [] M Q := by
  obtain ⟨b1, b2, b3, b4, b5, b6, b7, b8, b9, wmap, wlink, wk0, wk1, b10, b11, wword⟩ := id hW
  have hmp := mpos_P hW hw hp
  refine xi_aload_n dX6_hurl_0 rfl ?_
  refine xi_iload_n dX6_hurl_1 rfl ?_
  refine xi_iconst (v := 5) dX6_hurl_2 rfl ?_
  refine xi_callV [.int (nI p), .int 5] [] dX6_hurl_3 zX6_carries mlX6_112 (so hr) rfl rfl rfl rfl rfl (Nat.le_of_ble_eq_true rfl) (Nat.le_of_ble_eq_true rfl) ⟨by decide, by decide⟩ ?_
  refine s_car hW hG hr hS hw (p := p) (q := 5) (by omega) (by omega) ?_
  show WP _ _ 6 _ [.int (xb (mcar G S p 5))] _ _
  refine xb_if_ne (mcar G S p 5) 11 dX6_hurl_6 (by decide) rfl (fun h6 => ?_) (fun h6 => ?_)
  · skip
    refine xi_aload_n dX6_hurl_11 rfl ?_
    refine xi_getR dX6_hurl_12 fgX6_21 (so hr) rfl ?_
    refine xi_iload_n dX6_hurl_15 rfl ?_
    refine xi_iload_n dX6_hurl_16 rfl ?_
    refine xe_iast p dX6_hurl_17 (sa4 hr) (by decide) rfl (by omega) ?_
    generalize eM1 : (xa M (r + 4) (upd (M.2.1 (r + 4)) p (nI d))) = M1
    have hS1 : CS G (uF S p (nI d)) M1 r := by rw [← eM1]; exact csuF hS p (nI d)
    have hF1 : Fr r M M1 := by rw [← eM1]; exact Fr.xa (by decide) (by decide)
    have hG1 : CG G M1 := CG.fr hG hr hF1
    have hw1 : wS G (uF S p (nI d)) := (wS_uF hw)
    refine xi_aload_n dX6_hurl_18 rfl ?_
    refine xi_getR dX6_hurl_19 fgX6_9 (so hr) rfl ?_
    refine xi_iload_n dX6_hurl_22 rfl ?_
    refine xe_iald (v := nI (mpos S p)) p dX6_hurl_23 (sa1 hr) (by decide) rfl (by omega) ((csC hS1 (by omega)).trans hmp.1) ?_
    refine xi_istore_n (lv' := [some (.ref r), some (.int (nI p)), some (.int (nI d)), some (.int (nI (mpos S p))), none, none, none]) dX6_hurl_24 (by decide) rfl ?_
    refine xi_iconst (v := (-1)) dX6_hurl_25 rfl ?_
    refine xat 26 rfl ?_
    refine xi_istore (lv' := [some (.ref r), some (.int (nI p)), some (.int (nI d)), some (.int (nI (mpos S p))), some (.int (-1)), none, none]) dX6_hurl_26 (by decide) rfl ?_
    refine xi_aload_n dX6_hurl_28 rfl ?_
    refine xi_getR dX6_hurl_29 fgX6_39 (so hr) rfl ?_
    refine xi_iload_n dX6_hurl_32 rfl ?_
    refine xi_iload_n dX6_hurl_33 rfl ?_
    refine xi_callV [.int (nI (mpos S p)), .int (nI d)] [] dX6_hurl_34 zX1_nextTo mlX6_146 cc1 rfl rfl rfl rfl rfl (Nat.le_of_ble_eq_true rfl) (Nat.le_of_ble_eq_true rfl) ⟨by decide, by decide⟩ ?_
    refine g_next hW hG1 (k := mpos S p) (d := d) (by omega) (by omega) ?_
    show WP _ _ 37 _ [.int (xo (mnext G (mpos S p) d))] _ _
    generalize eo34 : mnext G (mpos S p) d = o34
    refine xi_istore (lv' := [some (.ref r), some (.int (nI p)), some (.int (nI d)), some (.int (nI (mpos S p))), some (.int (-1)), some (.int (xo o34)), none]) dX6_hurl_37 (by decide) rfl ?_
    refine xi_iconst (v := 0) dX6_hurl_39 rfl ?_
    refine xi_istore (lv' := [some (.ref r), some (.int (nI p)), some (.int (nI d)), some (.int (nI (mpos S p))), some (.int (-1)), some (.int (xo o34)), some (.int 0)]) dX6_hurl_40 (by decide) rfl ?_
    rw [mhurl_eq h6] at h
    exact l_hurl hW hG1 hr hS1 hw1 hp hd 4 0 (mpos S p) o34 (by omega) hmp.2 (fun j q => mnext_lt hW hmp.2 (eo34.trans q)) (fun M9 hF9 hS9 => by rw [← eo34] at hS9 ⊢; exact h M9 (hF1.tr hF9) hS9)
  · skip
    refine xi_iconst (v := 0) dX6_hurl_9 rfl ?_
    refine xi_iret (v := 0) dX6_hurl_10 rfl ?_
    have e : mhurl G S p d = (none, S) := by rw [mhurl, if_neg (by simp [h6])]
    rw [e] at h
    exact h M Fr.rf hS

