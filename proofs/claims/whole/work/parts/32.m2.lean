theorem nx1 (k w : Nat) : k / w * w + (k % w + 1) = k + 1 := by have := Nat.div_add_mod k w; rw [Nat.mul_comm] at this; omega
theorem nx3 {k w : Nat} (h : ¬ k % w = 0) : k / w * w + (k % w - 1) = k - 1 := by have := Nat.div_add_mod k w; rw [Nat.mul_comm] at this; omega
theorem nx0 {k w : Nat} (h : ¬ k / w = 0) : (k / w - 1) * w + k % w = k - w := by
  have h1 := Nat.div_add_mod k w
  rw [Nat.mul_comm] at h1
  obtain ⟨q, hq⟩ : ∃ q, k / w = q + 1 := Nat.exists_eq_succ_of_ne_zero h
  rw [hq] at h1 ⊢
  rw [Nat.add_mul, Nat.one_mul] at h1
  rw [Nat.add_sub_cancel]
  omega
theorem nx2 (k w : Nat) : (k / w + 1) * w + k % w = k + w := by
  have h1 := Nat.div_add_mod k w
  rw [Nat.mul_comm] at h1
  rw [Nat.add_mul, Nat.one_mul]
  omega
def jfo_ok (n j i : Nat) : Bool := decide (jfo (xz (2 * (j : Int) * ((i : Int) - 6) + (n : Int))) (nI (2 * n)) = xz (mq j n ((i : Int) - 6)))
theorem jfo_all : ((List.range 7).all fun n => (List.range n).all fun j => (List.range 13).all fun i => jfo_ok n j i) = true := by decide +kernel
theorem jfo_q {n j : Nat} {z : Int} (hn : n ≤ 6) (hj : j < n) (hz : z.natAbs ≤ n) : jfo (xz (2 * (j : Int) * z + n)) (nI (2 * n)) = xz (mq j n z) := by
  have h := List.all_eq_true.mp (List.all_eq_true.mp (List.all_eq_true.mp jfo_all n (List.mem_range.mpr (by omega))) j (List.mem_range.mpr hj)) (z + 6).toNat (List.mem_range.mpr (by omega))
  unfold jfo_ok at h
  rw [show (((z + 6).toNat : Nat) : Int) - 6 = z by omega] at h
  exact of_decide_eq_true h
def mrad (G : xG) (S : xS) (n : Nat) : Nat := if n < gP G ∧ mcar G S n 6 = true then 6 else 4
set_option maxHeartbeats 4000000 in
set_option maxRecDepth 100000 in
theorem n_next1 {G : xG} {M : xM} {Q : Option Value → xM → Prop} (hW : wG G) (hG : MG G M) {k : Nat} (hk : k < gN G)  (h : Q (some (.int (xo (mnext G k 1)))) M) : WP shM mX10_nextTo 0 [some (.ref 0), some (.int (nI k)), some (.int 1), none, none] [] M Q := by
  obtain ⟨b1, b2, b3, b4, b5, b6, b7, b8, b9, wmap, wlink, wk0, wk1, b10, b11, wword⟩ := id hW
  have c1 : k % gw G < gw G := Nat.mod_lt _ (by omega)
  have c2 : k / gw G < gh G := mrow_lt hk
  refine xi_iload_n dX10_nextTo_0 rfl ?_
  refine xi_aload_n dX10_nextTo_1 rfl ?_
  refine xe_getI (v := nI (gw G)) dX10_nextTo_2 fgX10_7 mm0 rfl (mg_w hG) ?_
  refine xe_irem dX10_nextTo_5 (nI_ne0 (by omega) (by omega)) (v := nI (k % gw G)) (pk_rem (by omega) (by omega) (by omega)) ?_
  refine xi_iload_n dX10_nextTo_6 rfl ?_
  refine xi_iconst (v := 1) dX10_nextTo_7 rfl ?_
  refine xn_icmp_ne 1 1 15 dX10_nextTo_8 (by decide) rfl rfl (by omega) (by omega) (fun h8 => ?_) (fun h8 => ?_)
  · omega
  · skip
    refine xi_iconst (v := 1) dX10_nextTo_11 rfl ?_
    refine xi_goto 25 dX10_nextTo_12 (by decide) ?_
    refine xe_iadd dX10_nextTo_25 (v := nI (k % gw G + 1)) (nI_add (k % gw G) 1) ?_
    refine xi_istore_n (lv' := [some (.ref 0), some (.int (nI k)), some (.int 1), some (.int (nI (k % gw G + 1))), none]) dX10_nextTo_26 (by decide) rfl ?_
    refine xi_iload_n dX10_nextTo_27 rfl ?_
    refine xi_aload_n dX10_nextTo_28 rfl ?_
    refine xe_getI (v := nI (gw G)) dX10_nextTo_29 fgX10_7 mm0 rfl (mg_w hG) ?_
    refine xe_idiv dX10_nextTo_32 (nI_ne0 (by omega) (by omega)) (v := nI (k / gw G)) (pk_div (by omega) (by omega) (by omega)) ?_
    refine xi_iload_n dX10_nextTo_33 rfl ?_
    refine xn_if_ne 1 41 dX10_nextTo_34 (by decide) rfl (by omega) (fun h34 => ?_) (fun h34 => ?_)
    · skip
      refine xi_iload_n dX10_nextTo_41 rfl ?_
      refine xi_iconst (v := 2) dX10_nextTo_42 rfl ?_
      refine xn_icmp_ne 1 2 50 dX10_nextTo_43 (by decide) rfl rfl (by omega) (by omega) (fun h43 => ?_) (fun h43 => ?_)
      · skip
        refine xi_iconst (v := 0) dX10_nextTo_50 rfl ?_
        refine xe_iadd dX10_nextTo_51 (v := nI (k / gw G + 0)) (nI_add (k / gw G) 0) ?_
        refine xi_istore (lv' := [some (.ref 0), some (.int (nI k)), some (.int 1), some (.int (nI (k % gw G + 1))), some (.int (nI (k / gw G + 0)))]) dX10_nextTo_52 (by decide) rfl ?_
        refine xi_iload_n dX10_nextTo_54 rfl ?_
        refine xn_if_lt (k % gw G + 1) 80 dX10_nextTo_55 (by decide) rfl (by omega) ?_
        refine xi_iload_n dX10_nextTo_58 rfl ?_
        refine xi_aload_n dX10_nextTo_59 rfl ?_
        refine xe_getI (v := nI (gw G)) dX10_nextTo_60 fgX10_7 mm0 rfl (mg_w hG) ?_
        refine xn_icmp_ge (k % gw G + 1) (gw G) 80 dX10_nextTo_63 (by decide) rfl rfl (by omega) (by omega) (fun h63 => ?_) (fun h63 => ?_)
        · skip
          refine xi_iconst (v := (-1)) dX10_nextTo_80 rfl ?_
          refine xi_goto 93 dX10_nextTo_81 (by decide) ?_
          refine xi_iret (v := (-1)) dX10_nextTo_93 rfl ?_
          rw [show mnext G k 1 = none from if_neg (by omega)] at h
          exact h
        · skip
          refine xi_iload dX10_nextTo_66 rfl ?_
          refine xn_if_lt (k / gw G + 0) 80 dX10_nextTo_68 (by decide) rfl (by omega) ?_
          refine xi_iload dX10_nextTo_71 rfl ?_
          refine xi_aload_n dX10_nextTo_73 rfl ?_
          refine xe_getI (v := nI (gh G)) dX10_nextTo_74 fgX10_13 mm0 rfl (mg_h hG) ?_
          refine xn_icmp_lt (k / gw G + 0) (gh G) 84 dX10_nextTo_77 (by decide) rfl rfl (by omega) (by omega) (fun h77 => ?_) (fun h77 => ?_)
          · skip
            refine xi_iload dX10_nextTo_84 rfl ?_
            refine xi_aload_n dX10_nextTo_86 rfl ?_
            refine xe_getI (v := nI (gw G)) dX10_nextTo_87 fgX10_7 mm0 rfl (mg_w hG) ?_
            refine xe_imul dX10_nextTo_90 (v := nI ((k / gw G + 0) * (gw G))) (pk_mul (k / gw G + 0) (gw G)) ?_
            refine xi_iload_n dX10_nextTo_91 rfl ?_
            refine xe_iadd dX10_nextTo_92 (v := nI (k + 1)) ((nI_add _ _).trans (congrArg nI (nx1 k (gw G)))) ?_
            refine xi_iret (v := nI (k + 1)) dX10_nextTo_93 rfl ?_
            rw [show mnext G k 1 = some (k + 1) from if_pos (by omega)] at h
            exact h
          · skip
            refine xi_iconst (v := (-1)) dX10_nextTo_80 rfl ?_
            refine xi_goto 93 dX10_nextTo_81 (by decide) ?_
            refine xi_iret (v := (-1)) dX10_nextTo_93 rfl ?_
            rw [show mnext G k 1 = none from if_neg (by omega)] at h
            exact h
      · omega
    · omega

set_option maxHeartbeats 4000000 in
set_option maxRecDepth 100000 in
theorem n_next2 {G : xG} {M : xM} {Q : Option Value → xM → Prop} (hW : wG G) (hG : MG G M) {k : Nat} (hk : k < gN G)  (h : Q (some (.int (xo (mnext G k 2)))) M) : WP shM mX10_nextTo 0 [some (.ref 0), some (.int (nI k)), some (.int 2), none, none] [] M Q := by
  obtain ⟨b1, b2, b3, b4, b5, b6, b7, b8, b9, wmap, wlink, wk0, wk1, b10, b11, wword⟩ := id hW
  have c1 : k % gw G < gw G := Nat.mod_lt _ (by omega)
  have c2 : k / gw G < gh G := mrow_lt hk
  refine xi_iload_n dX10_nextTo_0 rfl ?_
  refine xi_aload_n dX10_nextTo_1 rfl ?_
  refine xe_getI (v := nI (gw G)) dX10_nextTo_2 fgX10_7 mm0 rfl (mg_w hG) ?_
  refine xe_irem dX10_nextTo_5 (nI_ne0 (by omega) (by omega)) (v := nI (k % gw G)) (pk_rem (by omega) (by omega) (by omega)) ?_
  refine xi_iload_n dX10_nextTo_6 rfl ?_
  refine xi_iconst (v := 1) dX10_nextTo_7 rfl ?_
  refine xn_icmp_ne 2 1 15 dX10_nextTo_8 (by decide) rfl rfl (by omega) (by omega) (fun h8 => ?_) (fun h8 => ?_)
  · skip
    refine xi_iload_n dX10_nextTo_15 rfl ?_
    refine xi_iconst (v := 3) dX10_nextTo_16 rfl ?_
    refine xn_icmp_ne 2 3 24 dX10_nextTo_17 (by decide) rfl rfl (by omega) (by omega) (fun h17 => ?_) (fun h17 => ?_)
    · skip
      refine xi_iconst (v := 0) dX10_nextTo_24 rfl ?_
      refine xe_iadd dX10_nextTo_25 (v := nI (k % gw G + 0)) (nI_add (k % gw G) 0) ?_
      refine xi_istore_n (lv' := [some (.ref 0), some (.int (nI k)), some (.int 2), some (.int (nI (k % gw G + 0))), none]) dX10_nextTo_26 (by decide) rfl ?_
      refine xi_iload_n dX10_nextTo_27 rfl ?_
      refine xi_aload_n dX10_nextTo_28 rfl ?_
      refine xe_getI (v := nI (gw G)) dX10_nextTo_29 fgX10_7 mm0 rfl (mg_w hG) ?_
      refine xe_idiv dX10_nextTo_32 (nI_ne0 (by omega) (by omega)) (v := nI (k / gw G)) (pk_div (by omega) (by omega) (by omega)) ?_
      refine xi_iload_n dX10_nextTo_33 rfl ?_
      refine xn_if_ne 2 41 dX10_nextTo_34 (by decide) rfl (by omega) (fun h34 => ?_) (fun h34 => ?_)
      · skip
        refine xi_iload_n dX10_nextTo_41 rfl ?_
        refine xi_iconst (v := 2) dX10_nextTo_42 rfl ?_
        refine xn_icmp_ne 2 2 50 dX10_nextTo_43 (by decide) rfl rfl (by omega) (by omega) (fun h43 => ?_) (fun h43 => ?_)
        · omega
        · skip
          refine xi_iconst (v := 1) dX10_nextTo_46 rfl ?_
          refine xi_goto 51 dX10_nextTo_47 (by decide) ?_
          refine xe_iadd dX10_nextTo_51 (v := nI (k / gw G + 1)) (nI_add (k / gw G) 1) ?_
          refine xi_istore (lv' := [some (.ref 0), some (.int (nI k)), some (.int 2), some (.int (nI (k % gw G + 0))), some (.int (nI (k / gw G + 1)))]) dX10_nextTo_52 (by decide) rfl ?_
          refine xi_iload_n dX10_nextTo_54 rfl ?_
          refine xn_if_lt (k % gw G + 0) 80 dX10_nextTo_55 (by decide) rfl (by omega) ?_
          refine xi_iload_n dX10_nextTo_58 rfl ?_
          refine xi_aload_n dX10_nextTo_59 rfl ?_
          refine xe_getI (v := nI (gw G)) dX10_nextTo_60 fgX10_7 mm0 rfl (mg_w hG) ?_
          refine xn_icmp_ge (k % gw G + 0) (gw G) 80 dX10_nextTo_63 (by decide) rfl rfl (by omega) (by omega) (fun h63 => ?_) (fun h63 => ?_)
          · skip
            refine xi_iconst (v := (-1)) dX10_nextTo_80 rfl ?_
            refine xi_goto 93 dX10_nextTo_81 (by decide) ?_
            refine xi_iret (v := (-1)) dX10_nextTo_93 rfl ?_
            rw [show mnext G k 2 = none from if_neg (by omega)] at h
            exact h
          · skip
            refine xi_iload dX10_nextTo_66 rfl ?_
            refine xn_if_lt (k / gw G + 1) 80 dX10_nextTo_68 (by decide) rfl (by omega) ?_
            refine xi_iload dX10_nextTo_71 rfl ?_
            refine xi_aload_n dX10_nextTo_73 rfl ?_
            refine xe_getI (v := nI (gh G)) dX10_nextTo_74 fgX10_13 mm0 rfl (mg_h hG) ?_
            refine xn_icmp_lt (k / gw G + 1) (gh G) 84 dX10_nextTo_77 (by decide) rfl rfl (by omega) (by omega) (fun h77 => ?_) (fun h77 => ?_)
            · skip
              refine xi_iload dX10_nextTo_84 rfl ?_
              refine xi_aload_n dX10_nextTo_86 rfl ?_
              refine xe_getI (v := nI (gw G)) dX10_nextTo_87 fgX10_7 mm0 rfl (mg_w hG) ?_
              refine xe_imul dX10_nextTo_90 (v := nI ((k / gw G + 1) * (gw G))) (pk_mul (k / gw G + 1) (gw G)) ?_
              refine xi_iload_n dX10_nextTo_91 rfl ?_
              refine xe_iadd dX10_nextTo_92 (v := nI (k + gw G)) ((nI_add _ _).trans (congrArg nI (nx2 k (gw G)))) ?_
              refine xi_iret (v := nI (k + gw G)) dX10_nextTo_93 rfl ?_
              rw [show mnext G k 2 = some (k + gw G) from if_pos (by omega)] at h
              exact h
            · skip
              refine xi_iconst (v := (-1)) dX10_nextTo_80 rfl ?_
              refine xi_goto 93 dX10_nextTo_81 (by decide) ?_
              refine xi_iret (v := (-1)) dX10_nextTo_93 rfl ?_
              rw [show mnext G k 2 = none from if_neg (by omega)] at h
              exact h
      · omega
    · omega
  · omega

set_option maxHeartbeats 4000000 in
set_option maxRecDepth 100000 in
theorem n_next3a {G : xG} {M : xM} {Q : Option Value → xM → Prop} (hW : wG G) (hG : MG G M) {k : Nat} (hk : k < gN G) (hz : k % gw G = 0) (h : Q (some (.int (xo (mnext G k 3)))) M) : WP shM mX10_nextTo 0 [some (.ref 0), some (.int (nI k)), some (.int 3), none, none] [] M Q := by
  obtain ⟨b1, b2, b3, b4, b5, b6, b7, b8, b9, wmap, wlink, wk0, wk1, b10, b11, wword⟩ := id hW
  have c1 : k % gw G < gw G := Nat.mod_lt _ (by omega)
  have c2 : k / gw G < gh G := mrow_lt hk
  refine xi_iload_n dX10_nextTo_0 rfl ?_
  refine xi_aload_n dX10_nextTo_1 rfl ?_
  refine xe_getI (v := nI (gw G)) dX10_nextTo_2 fgX10_7 mm0 rfl (mg_w hG) ?_
  refine xe_irem dX10_nextTo_5 (nI_ne0 (by omega) (by omega)) (v := nI (k % gw G)) (pk_rem (by omega) (by omega) (by omega)) ?_
  refine xi_iload_n dX10_nextTo_6 rfl ?_
  refine xi_iconst (v := 1) dX10_nextTo_7 rfl ?_
  refine xn_icmp_ne 3 1 15 dX10_nextTo_8 (by decide) rfl rfl (by omega) (by omega) (fun h8 => ?_) (fun h8 => ?_)
  · skip
    refine xi_iload_n dX10_nextTo_15 rfl ?_
    refine xi_iconst (v := 3) dX10_nextTo_16 rfl ?_
    refine xn_icmp_ne 3 3 24 dX10_nextTo_17 (by decide) rfl rfl (by omega) (by omega) (fun h17 => ?_) (fun h17 => ?_)
    · omega
    · skip
      refine xi_iconst (v := (-1)) dX10_nextTo_20 rfl ?_
      refine xi_goto 25 dX10_nextTo_21 (by decide) ?_
      refine xe_iadd dX10_nextTo_25 (v := xo none) (by rw [hz]; rfl) ?_
      refine xi_istore_n (lv' := [some (.ref 0), some (.int (nI k)), some (.int 3), some (.int (xo none)), none]) dX10_nextTo_26 (by decide) rfl ?_
      refine xi_iload_n dX10_nextTo_27 rfl ?_
      refine xi_aload_n dX10_nextTo_28 rfl ?_
      refine xe_getI (v := nI (gw G)) dX10_nextTo_29 fgX10_7 mm0 rfl (mg_w hG) ?_
      refine xe_idiv dX10_nextTo_32 (nI_ne0 (by omega) (by omega)) (v := nI (k / gw G)) (pk_div (by omega) (by omega) (by omega)) ?_
      refine xi_iload_n dX10_nextTo_33 rfl ?_
      refine xn_if_ne 3 41 dX10_nextTo_34 (by decide) rfl (by omega) (fun h34 => ?_) (fun h34 => ?_)
      · skip
        refine xi_iload_n dX10_nextTo_41 rfl ?_
        refine xi_iconst (v := 2) dX10_nextTo_42 rfl ?_
        refine xn_icmp_ne 3 2 50 dX10_nextTo_43 (by decide) rfl rfl (by omega) (by omega) (fun h43 => ?_) (fun h43 => ?_)
        · skip
          refine xi_iconst (v := 0) dX10_nextTo_50 rfl ?_
          refine xe_iadd dX10_nextTo_51 (v := nI (k / gw G + 0)) (nI_add (k / gw G) 0) ?_
          refine xi_istore (lv' := [some (.ref 0), some (.int (nI k)), some (.int 3), some (.int (xo none)), some (.int (nI (k / gw G + 0)))]) dX10_nextTo_52 (by decide) rfl ?_
          refine xi_iload_n dX10_nextTo_54 rfl ?_
          refine xi_if_lt 80 dX10_nextTo_55 (by decide) (fun _ => ?_) (fun z => absurd (show xo none < 0 by decide) z)
          refine xi_iconst (v := (-1)) dX10_nextTo_80 rfl ?_
          refine xi_goto 93 dX10_nextTo_81 (by decide) ?_
          refine xi_iret (v := (-1)) dX10_nextTo_93 rfl ?_
          rw [show mnext G k 3 = none from if_pos hz] at h
          exact h
        · omega
      · omega
  · omega

set_option maxHeartbeats 4000000 in
set_option maxRecDepth 100000 in
theorem n_next3b {G : xG} {M : xM} {Q : Option Value → xM → Prop} (hW : wG G) (hG : MG G M) {k : Nat} (hk : k < gN G) (hz : ¬ k % gw G = 0) (h : Q (some (.int (xo (mnext G k 3)))) M) : WP shM mX10_nextTo 0 [some (.ref 0), some (.int (nI k)), some (.int 3), none, none] [] M Q := by
  obtain ⟨b1, b2, b3, b4, b5, b6, b7, b8, b9, wmap, wlink, wk0, wk1, b10, b11, wword⟩ := id hW
  have c1 : k % gw G < gw G := Nat.mod_lt _ (by omega)
  have c2 : k / gw G < gh G := mrow_lt hk
  refine xi_iload_n dX10_nextTo_0 rfl ?_
  refine xi_aload_n dX10_nextTo_1 rfl ?_
  refine xe_getI (v := nI (gw G)) dX10_nextTo_2 fgX10_7 mm0 rfl (mg_w hG) ?_
  refine xe_irem dX10_nextTo_5 (nI_ne0 (by omega) (by omega)) (v := nI (k % gw G)) (pk_rem (by omega) (by omega) (by omega)) ?_
  refine xi_iload_n dX10_nextTo_6 rfl ?_
  refine xi_iconst (v := 1) dX10_nextTo_7 rfl ?_
  refine xn_icmp_ne 3 1 15 dX10_nextTo_8 (by decide) rfl rfl (by omega) (by omega) (fun h8 => ?_) (fun h8 => ?_)
  · skip
    refine xi_iload_n dX10_nextTo_15 rfl ?_
    refine xi_iconst (v := 3) dX10_nextTo_16 rfl ?_
    refine xn_icmp_ne 3 3 24 dX10_nextTo_17 (by decide) rfl rfl (by omega) (by omega) (fun h17 => ?_) (fun h17 => ?_)
    · omega
    · skip
      refine xi_iconst (v := (-1)) dX10_nextTo_20 rfl ?_
      refine xi_goto 25 dX10_nextTo_21 (by decide) ?_
      refine xe_iadd dX10_nextTo_25 (v := nI (k % gw G - 1)) (sb_m1 (by omega)) ?_
      refine xi_istore_n (lv' := [some (.ref 0), some (.int (nI k)), some (.int 3), some (.int (nI (k % gw G - 1))), none]) dX10_nextTo_26 (by decide) rfl ?_
      refine xi_iload_n dX10_nextTo_27 rfl ?_
      refine xi_aload_n dX10_nextTo_28 rfl ?_
      refine xe_getI (v := nI (gw G)) dX10_nextTo_29 fgX10_7 mm0 rfl (mg_w hG) ?_
      refine xe_idiv dX10_nextTo_32 (nI_ne0 (by omega) (by omega)) (v := nI (k / gw G)) (pk_div (by omega) (by omega) (by omega)) ?_
      refine xi_iload_n dX10_nextTo_33 rfl ?_
      refine xn_if_ne 3 41 dX10_nextTo_34 (by decide) rfl (by omega) (fun h34 => ?_) (fun h34 => ?_)
      · skip
        refine xi_iload_n dX10_nextTo_41 rfl ?_
        refine xi_iconst (v := 2) dX10_nextTo_42 rfl ?_
        refine xn_icmp_ne 3 2 50 dX10_nextTo_43 (by decide) rfl rfl (by omega) (by omega) (fun h43 => ?_) (fun h43 => ?_)
        · skip
          refine xi_iconst (v := 0) dX10_nextTo_50 rfl ?_
          refine xe_iadd dX10_nextTo_51 (v := nI (k / gw G + 0)) (nI_add (k / gw G) 0) ?_
          refine xi_istore (lv' := [some (.ref 0), some (.int (nI k)), some (.int 3), some (.int (nI (k % gw G - 1))), some (.int (nI (k / gw G + 0)))]) dX10_nextTo_52 (by decide) rfl ?_
          refine xi_iload_n dX10_nextTo_54 rfl ?_
          refine xn_if_lt (k % gw G - 1) 80 dX10_nextTo_55 (by decide) rfl (by omega) ?_
          refine xi_iload_n dX10_nextTo_58 rfl ?_
          refine xi_aload_n dX10_nextTo_59 rfl ?_
          refine xe_getI (v := nI (gw G)) dX10_nextTo_60 fgX10_7 mm0 rfl (mg_w hG) ?_
          refine xn_icmp_ge (k % gw G - 1) (gw G) 80 dX10_nextTo_63 (by decide) rfl rfl (by omega) (by omega) (fun h63 => ?_) (fun h63 => ?_)
          · skip
            refine xi_iconst (v := (-1)) dX10_nextTo_80 rfl ?_
            refine xi_goto 93 dX10_nextTo_81 (by decide) ?_
            refine xi_iret (v := (-1)) dX10_nextTo_93 rfl ?_
            exfalso; omega
          · skip
            refine xi_iload dX10_nextTo_66 rfl ?_
            refine xn_if_lt (k / gw G + 0) 80 dX10_nextTo_68 (by decide) rfl (by omega) ?_
            refine xi_iload dX10_nextTo_71 rfl ?_
            refine xi_aload_n dX10_nextTo_73 rfl ?_
            refine xe_getI (v := nI (gh G)) dX10_nextTo_74 fgX10_13 mm0 rfl (mg_h hG) ?_
            refine xn_icmp_lt (k / gw G + 0) (gh G) 84 dX10_nextTo_77 (by decide) rfl rfl (by omega) (by omega) (fun h77 => ?_) (fun h77 => ?_)
            · skip
              refine xi_iload dX10_nextTo_84 rfl ?_
              refine xi_aload_n dX10_nextTo_86 rfl ?_
              refine xe_getI (v := nI (gw G)) dX10_nextTo_87 fgX10_7 mm0 rfl (mg_w hG) ?_
              refine xe_imul dX10_nextTo_90 (v := nI ((k / gw G + 0) * (gw G))) (pk_mul (k / gw G + 0) (gw G)) ?_
              refine xi_iload_n dX10_nextTo_91 rfl ?_
              refine xe_iadd dX10_nextTo_92 (v := nI (k - 1)) ((nI_add _ _).trans (congrArg nI (nx3 hz))) ?_
              refine xi_iret (v := nI (k - 1)) dX10_nextTo_93 rfl ?_
              rw [show mnext G k 3 = some (k - 1) from if_neg hz] at h
              exact h
            · skip
              refine xi_iconst (v := (-1)) dX10_nextTo_80 rfl ?_
              refine xi_goto 93 dX10_nextTo_81 (by decide) ?_
              refine xi_iret (v := (-1)) dX10_nextTo_93 rfl ?_
              exfalso; omega
        · omega
      · omega
  · omega

set_option maxHeartbeats 4000000 in
set_option maxRecDepth 100000 in
theorem n_next0a {G : xG} {M : xM} {Q : Option Value → xM → Prop} (hW : wG G) (hG : MG G M) {k : Nat} (hk : k < gN G) (hz : k / gw G = 0) (h : Q (some (.int (xo (mnext G k 0)))) M) : WP shM mX10_nextTo 0 [some (.ref 0), some (.int (nI k)), some (.int 0), none, none] [] M Q := by
  obtain ⟨b1, b2, b3, b4, b5, b6, b7, b8, b9, wmap, wlink, wk0, wk1, b10, b11, wword⟩ := id hW
  have c1 : k % gw G < gw G := Nat.mod_lt _ (by omega)
  have c2 : k / gw G < gh G := mrow_lt hk
  refine xi_iload_n dX10_nextTo_0 rfl ?_
  refine xi_aload_n dX10_nextTo_1 rfl ?_
  refine xe_getI (v := nI (gw G)) dX10_nextTo_2 fgX10_7 mm0 rfl (mg_w hG) ?_
  refine xe_irem dX10_nextTo_5 (nI_ne0 (by omega) (by omega)) (v := nI (k % gw G)) (pk_rem (by omega) (by omega) (by omega)) ?_
  refine xi_iload_n dX10_nextTo_6 rfl ?_
  refine xi_iconst (v := 1) dX10_nextTo_7 rfl ?_
  refine xn_icmp_ne 0 1 15 dX10_nextTo_8 (by decide) rfl rfl (by omega) (by omega) (fun h8 => ?_) (fun h8 => ?_)
  · skip
    refine xi_iload_n dX10_nextTo_15 rfl ?_
    refine xi_iconst (v := 3) dX10_nextTo_16 rfl ?_
    refine xn_icmp_ne 0 3 24 dX10_nextTo_17 (by decide) rfl rfl (by omega) (by omega) (fun h17 => ?_) (fun h17 => ?_)
    · skip
      refine xi_iconst (v := 0) dX10_nextTo_24 rfl ?_
      refine xe_iadd dX10_nextTo_25 (v := nI (k % gw G + 0)) (nI_add (k % gw G) 0) ?_
      refine xi_istore_n (lv' := [some (.ref 0), some (.int (nI k)), some (.int 0), some (.int (nI (k % gw G + 0))), none]) dX10_nextTo_26 (by decide) rfl ?_
      refine xi_iload_n dX10_nextTo_27 rfl ?_
      refine xi_aload_n dX10_nextTo_28 rfl ?_
      refine xe_getI (v := nI (gw G)) dX10_nextTo_29 fgX10_7 mm0 rfl (mg_w hG) ?_
      refine xe_idiv dX10_nextTo_32 (nI_ne0 (by omega) (by omega)) (v := nI (k / gw G)) (pk_div (by omega) (by omega) (by omega)) ?_
      refine xi_iload_n dX10_nextTo_33 rfl ?_
      refine xn_if_ne 0 41 dX10_nextTo_34 (by decide) rfl (by omega) (fun h34 => ?_) (fun h34 => ?_)
      · omega
      · skip
        refine xi_iconst (v := (-1)) dX10_nextTo_37 rfl ?_
        refine xi_goto 51 dX10_nextTo_38 (by decide) ?_
        refine xe_iadd dX10_nextTo_51 (v := xo none) (by rw [hz]; rfl) ?_
        refine xi_istore (lv' := [some (.ref 0), some (.int (nI k)), some (.int 0), some (.int (nI (k % gw G + 0))), some (.int (xo none))]) dX10_nextTo_52 (by decide) rfl ?_
        refine xi_iload_n dX10_nextTo_54 rfl ?_
        refine xn_if_lt (k % gw G + 0) 80 dX10_nextTo_55 (by decide) rfl (by omega) ?_
        refine xi_iload_n dX10_nextTo_58 rfl ?_
        refine xi_aload_n dX10_nextTo_59 rfl ?_
        refine xe_getI (v := nI (gw G)) dX10_nextTo_60 fgX10_7 mm0 rfl (mg_w hG) ?_
        refine xn_icmp_ge (k % gw G + 0) (gw G) 80 dX10_nextTo_63 (by decide) rfl rfl (by omega) (by omega) (fun h63 => ?_) (fun h63 => ?_)
        · skip
          refine xi_iconst (v := (-1)) dX10_nextTo_80 rfl ?_
          refine xi_goto 93 dX10_nextTo_81 (by decide) ?_
          refine xi_iret (v := (-1)) dX10_nextTo_93 rfl ?_
          rw [show mnext G k 0 = none from if_pos hz] at h
          exact h
        · skip
          refine xi_iload dX10_nextTo_66 rfl ?_
          refine xi_if_lt 80 dX10_nextTo_68 (by decide) (fun _ => ?_) (fun z => absurd (show xo none < 0 by decide) z)
          refine xi_iconst (v := (-1)) dX10_nextTo_80 rfl ?_
          refine xi_goto 93 dX10_nextTo_81 (by decide) ?_
          refine xi_iret (v := (-1)) dX10_nextTo_93 rfl ?_
          rw [show mnext G k 0 = none from if_pos hz] at h
          exact h
    · omega
  · omega

set_option maxHeartbeats 4000000 in
set_option maxRecDepth 100000 in
theorem n_next0b {G : xG} {M : xM} {Q : Option Value → xM → Prop} (hW : wG G) (hG : MG G M) {k : Nat} (hk : k < gN G) (hz : ¬ k / gw G = 0) (h : Q (some (.int (xo (mnext G k 0)))) M) : WP shM mX10_nextTo 0 [some (.ref 0), some (.int (nI k)), some (.int 0), none, none] [] M Q := by
  obtain ⟨b1, b2, b3, b4, b5, b6, b7, b8, b9, wmap, wlink, wk0, wk1, b10, b11, wword⟩ := id hW
  have c1 : k % gw G < gw G := Nat.mod_lt _ (by omega)
  have c2 : k / gw G < gh G := mrow_lt hk
  refine xi_iload_n dX10_nextTo_0 rfl ?_
  refine xi_aload_n dX10_nextTo_1 rfl ?_
  refine xe_getI (v := nI (gw G)) dX10_nextTo_2 fgX10_7 mm0 rfl (mg_w hG) ?_
  refine xe_irem dX10_nextTo_5 (nI_ne0 (by omega) (by omega)) (v := nI (k % gw G)) (pk_rem (by omega) (by omega) (by omega)) ?_
  refine xi_iload_n dX10_nextTo_6 rfl ?_
  refine xi_iconst (v := 1) dX10_nextTo_7 rfl ?_
  refine xn_icmp_ne 0 1 15 dX10_nextTo_8 (by decide) rfl rfl (by omega) (by omega) (fun h8 => ?_) (fun h8 => ?_)
  · skip
    refine xi_iload_n dX10_nextTo_15 rfl ?_
    refine xi_iconst (v := 3) dX10_nextTo_16 rfl ?_
    refine xn_icmp_ne 0 3 24 dX10_nextTo_17 (by decide) rfl rfl (by omega) (by omega) (fun h17 => ?_) (fun h17 => ?_)
    · skip
      refine xi_iconst (v := 0) dX10_nextTo_24 rfl ?_
      refine xe_iadd dX10_nextTo_25 (v := nI (k % gw G + 0)) (nI_add (k % gw G) 0) ?_
      refine xi_istore_n (lv' := [some (.ref 0), some (.int (nI k)), some (.int 0), some (.int (nI (k % gw G + 0))), none]) dX10_nextTo_26 (by decide) rfl ?_
      refine xi_iload_n dX10_nextTo_27 rfl ?_
      refine xi_aload_n dX10_nextTo_28 rfl ?_
      refine xe_getI (v := nI (gw G)) dX10_nextTo_29 fgX10_7 mm0 rfl (mg_w hG) ?_
      refine xe_idiv dX10_nextTo_32 (nI_ne0 (by omega) (by omega)) (v := nI (k / gw G)) (pk_div (by omega) (by omega) (by omega)) ?_
      refine xi_iload_n dX10_nextTo_33 rfl ?_
      refine xn_if_ne 0 41 dX10_nextTo_34 (by decide) rfl (by omega) (fun h34 => ?_) (fun h34 => ?_)
      · omega
      · skip
        refine xi_iconst (v := (-1)) dX10_nextTo_37 rfl ?_
        refine xi_goto 51 dX10_nextTo_38 (by decide) ?_
        refine xe_iadd dX10_nextTo_51 (v := nI (k / gw G - 1)) (sb_m1 (Nat.pos_of_ne_zero hz)) ?_
        refine xi_istore (lv' := [some (.ref 0), some (.int (nI k)), some (.int 0), some (.int (nI (k % gw G + 0))), some (.int (nI (k / gw G - 1)))]) dX10_nextTo_52 (by decide) rfl ?_
        refine xi_iload_n dX10_nextTo_54 rfl ?_
        refine xn_if_lt (k % gw G + 0) 80 dX10_nextTo_55 (by decide) rfl (by omega) ?_
        refine xi_iload_n dX10_nextTo_58 rfl ?_
        refine xi_aload_n dX10_nextTo_59 rfl ?_
        refine xe_getI (v := nI (gw G)) dX10_nextTo_60 fgX10_7 mm0 rfl (mg_w hG) ?_
        refine xn_icmp_ge (k % gw G + 0) (gw G) 80 dX10_nextTo_63 (by decide) rfl rfl (by omega) (by omega) (fun h63 => ?_) (fun h63 => ?_)
        · skip
          refine xi_iconst (v := (-1)) dX10_nextTo_80 rfl ?_
          refine xi_goto 93 dX10_nextTo_81 (by decide) ?_
          refine xi_iret (v := (-1)) dX10_nextTo_93 rfl ?_
          exfalso; omega
        · skip
          refine xi_iload dX10_nextTo_66 rfl ?_
          refine xn_if_lt (k / gw G - 1) 80 dX10_nextTo_68 (by decide) rfl (by omega) ?_
          refine xi_iload dX10_nextTo_71 rfl ?_
          refine xi_aload_n dX10_nextTo_73 rfl ?_
          refine xe_getI (v := nI (gh G)) dX10_nextTo_74 fgX10_13 mm0 rfl (mg_h hG) ?_
          refine xn_icmp_lt (k / gw G - 1) (gh G) 84 dX10_nextTo_77 (by decide) rfl rfl (by omega) (by omega) (fun h77 => ?_) (fun h77 => ?_)
          · skip
            refine xi_iload dX10_nextTo_84 rfl ?_
            refine xi_aload_n dX10_nextTo_86 rfl ?_
            refine xe_getI (v := nI (gw G)) dX10_nextTo_87 fgX10_7 mm0 rfl (mg_w hG) ?_
            refine xe_imul dX10_nextTo_90 (v := nI ((k / gw G - 1) * (gw G))) (pk_mul (k / gw G - 1) (gw G)) ?_
            refine xi_iload_n dX10_nextTo_91 rfl ?_
            refine xe_iadd dX10_nextTo_92 (v := nI (k - gw G)) ((nI_add _ _).trans (congrArg nI (nx0 hz))) ?_
            refine xi_iret (v := nI (k - gw G)) dX10_nextTo_93 rfl ?_
            rw [show mnext G k 0 = some (k - gw G) from if_neg hz] at h
            exact h
          · skip
            refine xi_iconst (v := (-1)) dX10_nextTo_80 rfl ?_
            refine xi_goto 93 dX10_nextTo_81 (by decide) ?_
            refine xi_iret (v := (-1)) dX10_nextTo_93 rfl ?_
            exfalso; omega
    · omega
  · omega

set_option maxHeartbeats 4000000 in
set_option maxRecDepth 100000 in
theorem n_next {G : xG} {M : xM} {Q : Option Value → xM → Prop} (hW : wG G) (hG : MG G M) {k d : Nat} (hk : k < gN G) (hd : d < 4) (h : Q (some (.int (xo (mnext G k d)))) M) : WP shM mX10_nextTo 0 [some (.ref 0), some (.int (nI k)), some (.int (nI d)), none, none] [] M Q := by
  rcases (show d = 0 ∨ d = 1 ∨ d = 2 ∨ d = 3 by omega) with rfl | rfl | rfl | rfl
  · by_cases hz : k / gw G = 0
    · exact n_next0a hW hG hk hz h
    · exact n_next0b hW hG hk hz h
  · exact n_next1 hW hG hk h
  · exact n_next2 hW hG hk h
  · by_cases hz : k % gw G = 0
    · exact n_next3a hW hG hk hz h
    · exact n_next3b hW hG hk hz h

set_option maxHeartbeats 4000000 in
set_option maxRecDepth 100000 in
theorem nl_sees {G : xG} {S : xS} {M : xM} {s : Nat} {Q : Option Value → xM → Prop} (hW : wG G) (hG : MG G M) (hs : s ≤ 56000) (hS : RM G S M s) {a b R n : Nat} (ha : a < gN G) (hb : b < gN G) (hn6 : n ≤ 6) (hxn : (mdx G a b).natAbs ≤ n) (hyn : (mdy G a b).natAbs ≤ n) : ∀ (f j : Nat), 1 ≤ j → j + f = max n 1 → Q (some (.int (xb (mseeL G S a (mdx G a b) (mdy G a b) n j f)))) M → WP shM mX10_seesCell 83 [some (.ref 0), some (.int (nI s)), some (.int (nI a)), some (.int (nI b)), some (.int (nI R)), some (.int (xz (mdx G a b))), some (.int (xz (mdy G a b))), some (.int (nI n)), some (.int (nI j)), none, none] [] M Q := by
  obtain ⟨b1, b2, b3, b4, b5, b6, b7, b8, b9, wmap, wlink, wk0, wk1, b10, b11, wword⟩ := id hW
  intro f
  induction f with
  | zero =>
    intro j hj hf h
    refine xi_iload dX10_seesCell_83 rfl ?_
    refine xi_iload dX10_seesCell_85 rfl ?_
    refine xn_icmp_ge j n 168 dX10_seesCell_87 (by decide) rfl rfl (by omega) (by omega) (fun h87 => ?_) (fun h87 => ?_)
    · skip
      refine xi_iconst (v := 1) dX10_seesCell_168 rfl ?_
      refine xi_zret (v := 1) dX10_seesCell_169 rfl (by decide) ?_
      exact h
    · omega
  | succ f ih =>
    intro j hj hf h
    refine xi_iload dX10_seesCell_83 rfl ?_
    refine xi_iload dX10_seesCell_85 rfl ?_
    refine xn_icmp_ge j n 168 dX10_seesCell_87 (by decide) rfl rfl (by omega) (by omega) (fun h87 => ?_) (fun h87 => ?_)
    · omega
    · skip
      have hc := mcell_lt hW ha hb hn6 (by omega) hxn hyn
      refine xi_iload_n dX10_seesCell_90 rfl ?_
      refine xi_aload_n dX10_seesCell_91 rfl ?_
      refine xe_getI (v := nI (gw G)) dX10_seesCell_92 fgX10_7 mm0 rfl (mg_w hG) ?_
      refine xe_irem dX10_seesCell_95 (nI_ne0 (by omega) (by omega)) (v := nI (a % gw G)) (pk_rem (by omega) (by omega) (by omega)) ?_
      refine xi_iconst (v := 2) dX10_seesCell_96 rfl ?_
      refine xi_iload dX10_seesCell_97 rfl ?_
      refine xe_imul dX10_seesCell_99 (v := nI (2 * j)) (pk_mul 2 j) ?_
      refine xi_iload dX10_seesCell_100 rfl ?_
      refine xe_imul dX10_seesCell_102 (v := xz (2 * (j : Int) * (mdx G a b))) (xz_2j j (mdx G a b)) ?_
      refine xi_iload dX10_seesCell_103 rfl ?_
      refine xe_iadd dX10_seesCell_105 (v := xz (2 * (j : Int) * (mdx G a b) + n)) (xz_addn _ _) ?_
      refine xat 106 rfl ?_
      refine xi_iconst (v := 2) dX10_seesCell_106 rfl ?_
      refine xi_iload dX10_seesCell_107 rfl ?_
      refine xe_imul dX10_seesCell_109 (v := nI (2 * n)) (pk_mul 2 n) ?_
      refine xi_callS [.int (xz (2 * (j : Int) * (mdx G a b) + n)), .int (nI (2 * n))] [.int (nI (a % gw G))] dX10_seesCell_110 zX10_floorOf mlX10_172 rfl rfl rfl (Nat.le_of_ble_eq_true rfl) (Nat.le_of_ble_eq_true rfl) ⟨by decide, by decide⟩ ?_
      refine n_floor (by rw [show (0 : Int32) = nI 0 from rfl]; exact fun q => by have := (nI_eq (by omega) (by omega)).mp q; omega) ?_
      rw [jfo_q hn6 (by omega) hxn]
      show WP _ _ 113 _ [.int (xz (mq j n (mdx G a b))), .int (nI (a % gw G))] _ _
      refine xe_iadd dX10_seesCell_113 (v := nI ((((a % gw G : Nat) : Int) + mq j n (mdx G a b)).toNat)) (xz_idx hc.1) ?_
      refine xi_istore (lv' := [some (.ref 0), some (.int (nI s)), some (.int (nI a)), some (.int (nI b)), some (.int (nI R)), some (.int (xz (mdx G a b))), some (.int (xz (mdy G a b))), some (.int (nI n)), some (.int (nI j)), some (.int (nI ((((a % gw G : Nat) : Int) + mq j n (mdx G a b)).toNat))), none]) dX10_seesCell_114 (by decide) rfl ?_
      refine xi_iload_n dX10_seesCell_116 rfl ?_
      refine xi_aload_n dX10_seesCell_117 rfl ?_
      refine xe_getI (v := nI (gw G)) dX10_seesCell_118 fgX10_7 mm0 rfl (mg_w hG) ?_
      refine xe_idiv dX10_seesCell_121 (nI_ne0 (by omega) (by omega)) (v := nI (a / gw G)) (pk_div (by omega) (by omega) (by omega)) ?_
      refine xi_iconst (v := 2) dX10_seesCell_122 rfl ?_
      refine xi_iload dX10_seesCell_123 rfl ?_
      refine xe_imul dX10_seesCell_125 (v := nI (2 * j)) (pk_mul 2 j) ?_
      refine xi_iload dX10_seesCell_126 rfl ?_
      refine xe_imul dX10_seesCell_128 (v := xz (2 * (j : Int) * (mdy G a b))) (xz_2j j (mdy G a b)) ?_
      refine xat 129 rfl ?_
      refine xi_iload dX10_seesCell_129 rfl ?_
      refine xe_iadd dX10_seesCell_131 (v := xz (2 * (j : Int) * (mdy G a b) + n)) (xz_addn _ _) ?_
      refine xi_iconst (v := 2) dX10_seesCell_132 rfl ?_
      refine xi_iload dX10_seesCell_133 rfl ?_
      refine xe_imul dX10_seesCell_135 (v := nI (2 * n)) (pk_mul 2 n) ?_
      refine xi_callS [.int (xz (2 * (j : Int) * (mdy G a b) + n)), .int (nI (2 * n))] [.int (nI (a / gw G))] dX10_seesCell_136 zX10_floorOf mlX10_172 rfl rfl rfl (Nat.le_of_ble_eq_true rfl) (Nat.le_of_ble_eq_true rfl) ⟨by decide, by decide⟩ ?_
      refine n_floor (by rw [show (0 : Int32) = nI 0 from rfl]; exact fun q => by have := (nI_eq (by omega) (by omega)).mp q; omega) ?_
      rw [jfo_q hn6 (by omega) hyn]
      show WP _ _ 139 _ [.int (xz (mq j n (mdy G a b))), .int (nI (a / gw G))] _ _
      refine xe_iadd dX10_seesCell_139 (v := nI ((((a / gw G : Nat) : Int) + mq j n (mdy G a b)).toNat)) (xz_idx hc.2.2.1) ?_
      refine xi_istore (lv' := [some (.ref 0), some (.int (nI s)), some (.int (nI a)), some (.int (nI b)), some (.int (nI R)), some (.int (xz (mdx G a b))), some (.int (xz (mdy G a b))), some (.int (nI n)), some (.int (nI j)), some (.int (nI ((((a % gw G : Nat) : Int) + mq j n (mdx G a b)).toNat))), some (.int (nI ((((a / gw G : Nat) : Int) + mq j n (mdy G a b)).toNat)))]) dX10_seesCell_140 (by decide) rfl ?_
      refine xi_aload_n dX10_seesCell_142 rfl ?_
      refine xi_iload_n dX10_seesCell_143 rfl ?_
      refine xi_iload dX10_seesCell_144 rfl ?_
      refine xi_aload_n dX10_seesCell_146 rfl ?_
      refine xe_getI (v := nI (gw G)) dX10_seesCell_147 fgX10_7 mm0 rfl (mg_w hG) ?_
      refine xe_imul dX10_seesCell_150 (v := nI (((((a / gw G : Nat) : Int) + mq j n (mdy G a b)).toNat) * (gw G))) (pk_mul ((((a / gw G : Nat) : Int) + mq j n (mdy G a b)).toNat) (gw G)) ?_
      refine xi_iload dX10_seesCell_151 rfl ?_
      refine xe_iadd dX10_seesCell_153 (v := nI (mcell G a (mdx G a b) (mdy G a b) n j)) (nI_add _ _) ?_
      have hc5 := hc.2.2.2.2
      refine xi_callV [.int (nI s), .int (nI (mcell G a (mdx G a b) (mdy G a b) n j))] [] dX10_seesCell_154 zX10_bars mlX10_175 mm0 rfl rfl rfl rfl rfl (Nat.le_of_ble_eq_true rfl) (Nat.le_of_ble_eq_true rfl) ⟨by decide, by decide⟩ ?_
      refine n_bars hW hG hs hS (k := mcell G a (mdx G a b) (mdy G a b) n j) (by omega) ?_
      show WP _ _ 157 _ [.int (xb (mbars G S (mcell G a (mdx G a b) (mdy G a b) n j)))] _ _
      refine xb_if_eq (mbars G S (mcell G a (mdx G a b) (mdy G a b) n j)) 162 dX10_seesCell_157 (by decide) rfl (fun h157 => ?_) (fun h157 => ?_)
      · skip
        refine xi_iinc (v := nI (j + 1)) (lv' := [some (.ref 0), some (.int (nI s)), some (.int (nI a)), some (.int (nI b)), some (.int (nI R)), some (.int (xz (mdx G a b))), some (.int (xz (mdy G a b))), some (.int (nI n)), some (.int (nI (j + 1))), some (.int (nI ((((a % gw G : Nat) : Int) + mq j n (mdx G a b)).toNat))), some (.int (nI ((((a / gw G : Nat) : Int) + mq j n (mdy G a b)).toNat)))]) dX10_seesCell_162 rfl (xinc j) (by decide) rfl ?_
        refine xi_goto 83 dX10_seesCell_165 (by decide) ?_
        refine xi_drop [true, true, true, true, true, true, true, true, true, false, false] rfl ?_
        rw [mseeL, if_neg (by simp [h157])] at h
        exact ih (j + 1) (by omega) (by omega) h
      · skip
        refine xi_iconst (v := 0) dX10_seesCell_160 rfl ?_
        refine xi_zret (v := 0) dX10_seesCell_161 rfl (by decide) ?_
        rw [mseeL, if_pos h157] at h
        exact h

set_option maxHeartbeats 4000000 in
set_option maxRecDepth 100000 in
theorem n_sees {G : xG} {S : xS} {M : xM} {s : Nat} {Q : Option Value → xM → Prop} (hW : wG G) (hG : MG G M) (hs : s ≤ 56000) (hS : RM G S M s) {a b R : Nat} (ha : a < gN G) (hb : b < gN G) (hR : R ≤ 6) (h : Q (some (.int (xb (msee G S a b R)))) M) : WP shM mX10_seesCell 0 [some (.ref 0), some (.int (nI s)), some (.int (nI a)), some (.int (nI b)), some (.int (nI R)), none, none, none, none, none, none] [] M Q := by
  obtain ⟨b1, b2, b3, b4, b5, b6, b7, b8, b9, wmap, wlink, wk0, wk1, b10, b11, wword⟩ := id hW
  have bx := mdx_bd hW a b
  have by_ := mdy_bd hW ha hb
  refine xi_iload_n dX10_seesCell_0 rfl ?_
  refine xi_aload_n dX10_seesCell_1 rfl ?_
  refine xe_getI (v := nI (gw G)) dX10_seesCell_2 fgX10_7 mm0 rfl (mg_w hG) ?_
  refine xe_irem dX10_seesCell_5 (nI_ne0 (by omega) (by omega)) (v := nI (b % gw G)) (pk_rem (by omega) (by omega) (by omega)) ?_
  refine xi_iload_n dX10_seesCell_6 rfl ?_
  refine xi_aload_n dX10_seesCell_7 rfl ?_
  refine xe_getI (v := nI (gw G)) dX10_seesCell_8 fgX10_7 mm0 rfl (mg_w hG) ?_
  refine xe_irem dX10_seesCell_11 (nI_ne0 (by omega) (by omega)) (v := nI (a % gw G)) (pk_rem (by omega) (by omega) (by omega)) ?_
  refine xe_isub dX10_seesCell_12 (v := xz (mdx G a b)) (xz_nsub _ _) ?_
  refine xi_istore (lv' := [some (.ref 0), some (.int (nI s)), some (.int (nI a)), some (.int (nI b)), some (.int (nI R)), some (.int (xz (mdx G a b))), none, none, none, none, none]) dX10_seesCell_13 (by decide) rfl ?_
  refine xi_iload_n dX10_seesCell_15 rfl ?_
  refine xat 16 rfl ?_
  refine xi_aload_n dX10_seesCell_16 rfl ?_
  refine xe_getI (v := nI (gw G)) dX10_seesCell_17 fgX10_7 mm0 rfl (mg_w hG) ?_
  refine xe_idiv dX10_seesCell_20 (nI_ne0 (by omega) (by omega)) (v := nI (b / gw G)) (pk_div (by omega) (by omega) (by omega)) ?_
  refine xi_iload_n dX10_seesCell_21 rfl ?_
  refine xi_aload_n dX10_seesCell_22 rfl ?_
  refine xe_getI (v := nI (gw G)) dX10_seesCell_23 fgX10_7 mm0 rfl (mg_w hG) ?_
  refine xe_idiv dX10_seesCell_26 (nI_ne0 (by omega) (by omega)) (v := nI (a / gw G)) (pk_div (by omega) (by omega) (by omega)) ?_
  refine xe_isub dX10_seesCell_27 (v := xz (mdy G a b)) (xz_nsub _ _) ?_
  refine xi_istore (lv' := [some (.ref 0), some (.int (nI s)), some (.int (nI a)), some (.int (nI b)), some (.int (nI R)), some (.int (xz (mdx G a b))), some (.int (xz (mdy G a b))), none, none, none, none]) dX10_seesCell_28 (by decide) rfl ?_
  refine xi_iload dX10_seesCell_30 rfl ?_
  refine xi_callS [.int (xz (mdx G a b))] [] dX10_seesCell_32 zX10_amount mlX10_168 rfl rfl rfl (Nat.le_of_ble_eq_true rfl) (Nat.le_of_ble_eq_true rfl) ⟨by decide, by decide⟩ ?_
  refine n_amount (z := (mdx G a b)) (by omega) (by omega) ?_
  show WP _ _ 35 _ [.int (nI ((mdx G a b).natAbs))] _ _
  refine xi_iload dX10_seesCell_35 rfl ?_
  refine xn_icmp_gt ((mdx G a b).natAbs) R 50 dX10_seesCell_37 (by decide) rfl rfl (by omega) (by omega) (fun h37 => ?_) (fun h37 => ?_)
  · skip
    refine xi_iconst (v := 0) dX10_seesCell_50 rfl ?_
    refine xi_zret (v := 0) dX10_seesCell_51 rfl (by decide) ?_
    rw [msee, if_neg (by unfold mnn; omega)] at h
    exact h
  · skip
    refine xi_iload dX10_seesCell_40 rfl ?_
    refine xi_callS [.int (xz (mdy G a b))] [] dX10_seesCell_42 zX10_amount mlX10_168 rfl rfl rfl (Nat.le_of_ble_eq_true rfl) (Nat.le_of_ble_eq_true rfl) ⟨by decide, by decide⟩ ?_
    refine n_amount (z := (mdy G a b)) (by omega) (by omega) ?_
    show WP _ _ 45 _ [.int (nI ((mdy G a b).natAbs))] _ _
    refine xi_iload dX10_seesCell_45 rfl ?_
    refine xn_icmp_le ((mdy G a b).natAbs) R 52 dX10_seesCell_47 (by decide) rfl rfl (by omega) (by omega) (fun h47 => ?_) (fun h47 => ?_)
    · skip
      refine xi_iload dX10_seesCell_52 rfl ?_
      refine xi_callS [.int (xz (mdx G a b))] [] dX10_seesCell_54 zX10_amount mlX10_168 rfl rfl rfl (Nat.le_of_ble_eq_true rfl) (Nat.le_of_ble_eq_true rfl) ⟨by decide, by decide⟩ ?_
      refine n_amount (z := (mdx G a b)) (by omega) (by omega) ?_
      show WP _ _ 57 _ [.int (nI ((mdx G a b).natAbs))] _ _
      refine xi_iload dX10_seesCell_57 rfl ?_
      refine xi_callS [.int (xz (mdy G a b))] [.int (nI ((mdx G a b).natAbs))] dX10_seesCell_59 zX10_amount mlX10_168 rfl rfl rfl (Nat.le_of_ble_eq_true rfl) (Nat.le_of_ble_eq_true rfl) ⟨by decide, by decide⟩ ?_
      refine n_amount (z := (mdy G a b)) (by omega) (by omega) ?_
      show WP _ _ 62 _ [.int (nI ((mdy G a b).natAbs)), .int (nI ((mdx G a b).natAbs))] _ _
      refine xn_icmp_le ((mdx G a b).natAbs) ((mdy G a b).natAbs) 73 dX10_seesCell_62 (by decide) rfl rfl (by omega) (by omega) (fun h62 => ?_) (fun h62 => ?_)
      · skip
        refine xi_iload dX10_seesCell_73 rfl ?_
        refine xi_callS [.int (xz (mdy G a b))] [] dX10_seesCell_75 zX10_amount mlX10_168 rfl rfl rfl (Nat.le_of_ble_eq_true rfl) (Nat.le_of_ble_eq_true rfl) ⟨by decide, by decide⟩ ?_
        refine n_amount (z := (mdy G a b)) (by omega) (by omega) ?_
        show WP _ _ 78 _ [.int (nI ((mdy G a b).natAbs))] _ _
        refine xi_istore (lv' := [some (.ref 0), some (.int (nI s)), some (.int (nI a)), some (.int (nI b)), some (.int (nI R)), some (.int (xz (mdx G a b))), some (.int (xz (mdy G a b))), some (.int (nI ((mdy G a b).natAbs))), none, none, none]) dX10_seesCell_78 (by decide) rfl ?_
        refine xi_iconst (v := 1) dX10_seesCell_80 rfl ?_
        refine xi_istore (lv' := [some (.ref 0), some (.int (nI s)), some (.int (nI a)), some (.int (nI b)), some (.int (nI R)), some (.int (xz (mdx G a b))), some (.int (xz (mdy G a b))), some (.int (nI ((mdy G a b).natAbs))), some (.int 1), none, none]) dX10_seesCell_81 (by decide) rfl ?_
        have en : mnn (mdx G a b) (mdy G a b) = (mdy G a b).natAbs := by unfold mnn; omega
        rw [msee, en, if_pos (by omega)] at h
        exact nl_sees hW hG hs hS ha hb (by omega) (by omega) (by omega) _ 1 (by omega) (by omega) h
      · skip
        refine xi_iload dX10_seesCell_65 rfl ?_
        refine xi_callS [.int (xz (mdx G a b))] [] dX10_seesCell_67 zX10_amount mlX10_168 rfl rfl rfl (Nat.le_of_ble_eq_true rfl) (Nat.le_of_ble_eq_true rfl) ⟨by decide, by decide⟩ ?_
        refine n_amount (z := (mdx G a b)) (by omega) (by omega) ?_
        show WP _ _ 70 _ [.int (nI ((mdx G a b).natAbs))] _ _
        refine xi_goto 78 dX10_seesCell_70 (by decide) ?_
        refine xi_istore (lv' := [some (.ref 0), some (.int (nI s)), some (.int (nI a)), some (.int (nI b)), some (.int (nI R)), some (.int (xz (mdx G a b))), some (.int (xz (mdy G a b))), some (.int (nI ((mdx G a b).natAbs))), none, none, none]) dX10_seesCell_78 (by decide) rfl ?_
        refine xi_iconst (v := 1) dX10_seesCell_80 rfl ?_
        refine xi_istore (lv' := [some (.ref 0), some (.int (nI s)), some (.int (nI a)), some (.int (nI b)), some (.int (nI R)), some (.int (xz (mdx G a b))), some (.int (xz (mdy G a b))), some (.int (nI ((mdx G a b).natAbs))), some (.int 1), none, none]) dX10_seesCell_81 (by decide) rfl ?_
        have en : mnn (mdx G a b) (mdy G a b) = (mdx G a b).natAbs := by unfold mnn; omega
        rw [msee, en, if_pos (by omega)] at h
        exact nl_sees hW hG hs hS ha hb (by omega) (by omega) (by omega) _ 1 (by omega) (by omega) h
    · skip
      refine xi_iconst (v := 0) dX10_seesCell_50 rfl ?_
      refine xi_zret (v := 0) dX10_seesCell_51 rfl (by decide) ?_
      rw [msee, if_neg (by unfold mnn; omega)] at h
      exact h

set_option maxHeartbeats 4000000 in
set_option maxRecDepth 100000 in
theorem n_tsees {G : xG} {S : xS} {M : xM} {s : Nat} {Q : Option Value → xM → Prop} (hW : wG G) (hG : MG G M) (hs : s ≤ 56000) (hS : RM G S M s) (hw : wS G S) {n k : Nat} (hn : n < gT G) (hkn : gkind G n ≤ 2) (hk : k < gN G) (h : Q (some (.int (xb (msee G S (mpos S n) k (mrad G S n))))) M) : WP shM mX10_thingSees 0 [some (.ref 0), some (.int (nI s)), some (.int (nI n)), some (.int (nI k)), none] [] M Q := by
  obtain ⟨b1, b2, b3, b4, b5, b6, b7, b8, b9, wmap, wlink, wk0, wk1, b10, b11, wword⟩ := id hW
  have hpn := mpos_at hW hw hn hkn
  refine xi_aload_n dX10_thingSees_0 rfl ?_
  refine xi_getR dX10_thingSees_1 fgX10_39 mm0 rfl ?_
  refine xi_iload_n dX10_thingSees_4 rfl ?_
  refine xi_bipush (v := 6) dX10_thingSees_5 (by decide) ?_
  refine xi_iload_n dX10_thingSees_7 rfl ?_
  refine xe_imul dX10_thingSees_8 (v := nI (6 * n)) (pk_mul 6 n) ?_
  refine xe_iadd dX10_thingSees_9 (v := nI (s + (6 * n))) (nI_add s (6 * n)) ?_
  refine xi_iconst (v := 4) dX10_thingSees_10 rfl ?_
  refine xe_iadd dX10_thingSees_11 (v := nI (s + (6 * n) + 4)) (nI_add (s + (6 * n)) 4) ?_
  obtain ⟨o1, ho1⟩ : ∃ o, o = mHn G S n := ⟨_, rfl⟩
  refine xe_iald (v := xo o1) (s + (6 * n) + 4) dX10_thingSees_12 mm5 (by decide) rfl (by omega) (by rw [ho1]; exact rmHn hS (by omega)) ?_
  refine xi_istore (lv' := [some (.ref 0), some (.int (nI s)), some (.int (nI n)), some (.int (nI k)), some (.int (xo o1))]) dX10_thingSees_13 (by decide) rfl ?_
  refine xat 15 rfl ?_
  refine xi_aload_n dX10_thingSees_15 rfl ?_
  refine xi_iload_n dX10_thingSees_16 rfl ?_
  refine xi_aload_n dX10_thingSees_17 rfl ?_
  refine xi_getR dX10_thingSees_18 fgX10_39 mm0 rfl ?_
  refine xi_iload_n dX10_thingSees_21 rfl ?_
  refine xi_bipush (v := 6) dX10_thingSees_22 (by decide) ?_
  refine xi_iload_n dX10_thingSees_24 rfl ?_
  refine xe_imul dX10_thingSees_25 (v := nI (6 * n)) (pk_mul 6 n) ?_
  refine xe_iadd dX10_thingSees_26 (v := nI (s + (6 * n))) (nI_add s (6 * n)) ?_
  refine xi_iconst (v := 0) dX10_thingSees_27 rfl ?_
  refine xe_iadd dX10_thingSees_28 (v := nI (s + (6 * n) + 0)) (nI_add (s + (6 * n)) 0) ?_
  refine xe_iald (v := nI (mpos S n)) (s + (6 * n) + 0) dX10_thingSees_29 mm5 (by decide) rfl (by omega) ((rmC hS (by omega)).trans hpn.1) ?_
  refine xat 30 rfl ?_
  refine xi_iload_n dX10_thingSees_30 rfl ?_
  refine xi_aload_n dX10_thingSees_31 rfl ?_
  refine xi_getR dX10_thingSees_32 fgX10_29 mm0 rfl ?_
  refine xi_iload_n dX10_thingSees_35 rfl ?_
  have q2 : gkind G n ≤ 7 := hW.kind (by omega)
  refine xe_iald (v := nI (gkind G n)) n dX10_thingSees_36 mm4 (by decide) rfl (by omega) (mg_kind hG (by omega)) ?_
  refine xn_if_ne (gkind G n) 62 dX10_thingSees_37 (by decide) rfl (by omega) (fun h37 => ?_) (fun h37 => ?_)
  · skip
    refine xi_iconst (v := 4) dX10_thingSees_62 rfl ?_
    refine xi_callV [.int (nI s), .int (nI (mpos S n)), .int (nI k), .int 4] [] dX10_thingSees_63 zX10_seesCell mlX10_178 mm0 rfl rfl rfl rfl rfl (Nat.le_of_ble_eq_true rfl) (Nat.le_of_ble_eq_true rfl) ⟨by decide, by decide⟩ ?_
    refine n_sees hW hG hs hS (a := mpos S n) (b := k) (R := 4) (by omega) (by omega) (by omega) ?_
    show WP _ _ 66 _ [.int (xb (msee G S (mpos S n) k 4))] _ _
    refine xb_zret (st := []) (msee G S (mpos S n) k 4) dX10_thingSees_66 rfl rfl ?_
    have e : mrad G S n = 4 := if_neg (fun q => by have := wk0 n q.1; omega)
    rw [e] at h
    exact h
  · skip
    have hnP : n < gP G := by
      by_cases q : n < gP G
      · exact q
      · have := wk1 n (by omega) hn; omega
    have hox := ho1
    rw [mHn, if_pos hnP] at hox
    refine xi_iload dX10_thingSees_40 rfl ?_
    refine xo_if_lt o1 62 dX10_thingSees_42 (by decide) rfl (fun j q => by have := hw.2.2.2.2 n hnP j (hox.symm.trans q); omega) (fun h42 => ?_) (fun j h42 => ?_)
    · subst h42
      refine xi_iconst (v := 4) dX10_thingSees_62 rfl ?_
      refine xi_callV [.int (nI s), .int (nI (mpos S n)), .int (nI k), .int 4] [] dX10_thingSees_63 zX10_seesCell mlX10_178 mm0 rfl rfl rfl rfl rfl (Nat.le_of_ble_eq_true rfl) (Nat.le_of_ble_eq_true rfl) ⟨by decide, by decide⟩ ?_
      refine n_sees hW hG hs hS (a := mpos S n) (b := k) (R := 4) (by omega) (by omega) (by omega) ?_
      show WP _ _ 66 _ [.int (xb (msee G S (mpos S n) k 4))] _ _
      refine xb_zret (st := []) (msee G S (mpos S n) k 4) dX10_thingSees_66 rfl rfl ?_
      have e : mrad G S n = 4 := if_neg (fun q => by have := q.2; simp [mcar, ← hox] at this)
      rw [e] at h
      exact h
    · subst h42
      have hj := hw.2.2.2.2 n hnP j hox.symm
      refine xi_aload_n dX10_thingSees_45 rfl ?_
      refine xi_getR dX10_thingSees_46 fgX10_29 mm0 rfl ?_
      refine xi_iload dX10_thingSees_49 rfl ?_
      have q3 : gkind G j ≤ 7 := hW.kind (by omega)
      refine xe_iald (v := nI (gkind G j)) j dX10_thingSees_51 mm4 (by decide) rfl (by omega) (mg_kind hG (by omega)) ?_
      refine xi_bipush (v := 6) dX10_thingSees_52 (by decide) ?_
      refine xn_icmp_ne (gkind G j) 6 62 dX10_thingSees_54 (by decide) rfl rfl (by omega) (by omega) (fun h54 => ?_) (fun h54 => ?_)
      · skip
        refine xi_iconst (v := 4) dX10_thingSees_62 rfl ?_
        refine xi_callV [.int (nI s), .int (nI (mpos S n)), .int (nI k), .int 4] [] dX10_thingSees_63 zX10_seesCell mlX10_178 mm0 rfl rfl rfl rfl rfl (Nat.le_of_ble_eq_true rfl) (Nat.le_of_ble_eq_true rfl) ⟨by decide, by decide⟩ ?_
        refine n_sees hW hG hs hS (a := mpos S n) (b := k) (R := 4) (by omega) (by omega) (by omega) ?_
        show WP _ _ 66 _ [.int (xb (msee G S (mpos S n) k 4))] _ _
        refine xb_zret (st := []) (msee G S (mpos S n) k 4) dX10_thingSees_66 rfl rfl ?_
        have e : mrad G S n = 4 := if_neg (fun q => by have := q.2; simp [mcar, ← hox, h54] at this)
        rw [e] at h
        exact h
      · skip
        refine xi_bipush (v := 6) dX10_thingSees_57 (by decide) ?_
        refine xi_goto 63 dX10_thingSees_59 (by decide) ?_
        refine xi_callV [.int (nI s), .int (nI (mpos S n)), .int (nI k), .int 6] [] dX10_thingSees_63 zX10_seesCell mlX10_178 mm0 rfl rfl rfl rfl rfl (Nat.le_of_ble_eq_true rfl) (Nat.le_of_ble_eq_true rfl) ⟨by decide, by decide⟩ ?_
        refine n_sees hW hG hs hS (a := mpos S n) (b := k) (R := 6) (by omega) (by omega) (by omega) ?_
        show WP _ _ 66 _ [.int (xb (msee G S (mpos S n) k 6))] _ _
        refine xb_zret (st := []) (msee G S (mpos S n) k 6) dX10_thingSees_66 rfl rfl ?_
        have e : mrad G S n = 6 := if_pos ⟨hnP, by simp [mcar, ← hox, h54]⟩
        rw [e] at h
        exact h

