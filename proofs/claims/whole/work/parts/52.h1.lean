set_option maxHeartbeats 4000000 in
set_option maxRecDepth 100000 in
theorem g_hasCT {G : xG} {M : xM} {Q : Option Value → xM → Prop} (hW : wG G) (hG : CG G M) {k : Nat} (hk : k < gN G) (h : Q (some (.int (xb true))) M) : WP shC mX1_hasCell 0 [some (.ref 1), some (.int (nI k))] [] M Q := by
  obtain ⟨b1, b2, b3, b4, b5, b6, b7, b8, b9, wmap, wlink, wk0, wk1, b10, b11, wword⟩ := id hW
  refine xi_iload_n dX1_hasCell_0 rfl ?_
  refine xn_if_lt k 16 dX1_hasCell_1 (by decide) rfl (by omega) ?_
  refine xi_iload_n dX1_hasCell_4 rfl ?_
  refine xi_aload_n dX1_hasCell_5 rfl ?_
  refine xe_getI (v := nI (gN G)) dX1_hasCell_6 fgX1_43 cc1 rfl (cg_N hG) ?_
  refine xn_icmp_ge k (gN G) 16 dX1_hasCell_9 (by decide) rfl rfl (by omega) (by omega) (fun z => absurd z (by omega)) (fun h9 => ?_)
  refine xi_iconst (v := 1) dX1_hasCell_12 rfl ?_
  refine xi_goto 17 dX1_hasCell_13 (by decide) ?_
  refine xi_zret (v := 1) dX1_hasCell_17 rfl (by decide) ?_
  exact h

set_option maxHeartbeats 4000000 in
set_option maxRecDepth 100000 in
theorem g_hasCF {G : xG} {M : xM} {Q : Option Value → xM → Prop} (hW : wG G) (hG : CG G M) {x : Int32} (hc : x < 0 ∨ nI (gN G) ≤ x) (h : Q (some (.int (xb false))) M) : WP shC mX1_hasCell 0 [some (.ref 1), some (.int x)] [] M Q := by
  obtain ⟨b1, b2, b3, b4, b5, b6, b7, b8, b9, wmap, wlink, wk0, wk1, b10, b11, wword⟩ := id hW
  refine xi_iload_n dX1_hasCell_0 rfl ?_
  refine xi_if_lt 16 dX1_hasCell_1 (by decide) (fun h1 => ?_) (fun h1 => ?_)
  · skip
    refine xi_iconst (v := 0) dX1_hasCell_16 rfl ?_
    refine xi_zret (v := 0) dX1_hasCell_17 rfl (by decide) ?_
    exact h
  · skip
    refine xi_iload_n dX1_hasCell_4 rfl ?_
    refine xi_aload_n dX1_hasCell_5 rfl ?_
    refine xe_getI (v := nI (gN G)) dX1_hasCell_6 fgX1_43 cc1 rfl (cg_N hG) ?_
    refine xi_icmp_ge 16 dX1_hasCell_9 (by decide) (fun h9 => ?_) (fun z => hc.elim (fun q => absurd q h1) (fun q => absurd q z))
    refine xi_iconst (v := 0) dX1_hasCell_16 rfl ?_
    refine xi_zret (v := 0) dX1_hasCell_17 rfl (by decide) ?_
    exact h

set_option maxHeartbeats 4000000 in
set_option maxRecDepth 100000 in
theorem g_hasCR {G : xG} {M : xM} {Q : Option Value → xM → Prop} (hW : wG G) (hG : CG G M) {x : Int32} (h : Q (some (.int (xb (xix x (gN G)).isSome))) M) : WP shC mX1_hasCell 0 [some (.ref 1), some (.int x)] [] M Q := by
  obtain ⟨b1, b2, b3, b4, b5, b6, b7, b8, b9, wmap, wlink, wk0, wk1, b10, b11, wword⟩ := id hW
  rcases xix_cases x (n := gN G) (by omega) with ⟨ec, hc⟩ | ⟨k, hk, rfl, ec⟩
  · rw [ec] at h; exact g_hasCF hW hG hc h
  · rw [ec] at h; exact g_hasCT hW hG hk h

set_option maxHeartbeats 4000000 in
set_option maxRecDepth 100000 in
theorem g_hasDT {G : xG} {M : xM} {Q : Option Value → xM → Prop} (hW : wG G) (hG : CG G M) {k : Nat} (hk : k < gD G) (h : Q (some (.int (xb true))) M) : WP shC mX1_hasDoor 0 [some (.ref 1), some (.int (nI k))] [] M Q := by
  obtain ⟨b1, b2, b3, b4, b5, b6, b7, b8, b9, wmap, wlink, wk0, wk1, b10, b11, wword⟩ := id hW
  refine xi_iload_n dX1_hasDoor_0 rfl ?_
  refine xn_if_lt k 16 dX1_hasDoor_1 (by decide) rfl (by omega) ?_
  refine xi_iload_n dX1_hasDoor_4 rfl ?_
  refine xi_aload_n dX1_hasDoor_5 rfl ?_
  refine xe_getI (v := nI (gD G)) dX1_hasDoor_6 fgX1_46 cc1 rfl (cg_D hG) ?_
  refine xn_icmp_ge k (gD G) 16 dX1_hasDoor_9 (by decide) rfl rfl (by omega) (by omega) (fun z => absurd z (by omega)) (fun h9 => ?_)
  refine xi_iconst (v := 1) dX1_hasDoor_12 rfl ?_
  refine xi_goto 17 dX1_hasDoor_13 (by decide) ?_
  refine xi_zret (v := 1) dX1_hasDoor_17 rfl (by decide) ?_
  exact h

set_option maxHeartbeats 4000000 in
set_option maxRecDepth 100000 in
theorem g_hasDF {G : xG} {M : xM} {Q : Option Value → xM → Prop} (hW : wG G) (hG : CG G M) {x : Int32} (hc : x < 0 ∨ nI (gD G) ≤ x) (h : Q (some (.int (xb false))) M) : WP shC mX1_hasDoor 0 [some (.ref 1), some (.int x)] [] M Q := by
  obtain ⟨b1, b2, b3, b4, b5, b6, b7, b8, b9, wmap, wlink, wk0, wk1, b10, b11, wword⟩ := id hW
  refine xi_iload_n dX1_hasDoor_0 rfl ?_
  refine xi_if_lt 16 dX1_hasDoor_1 (by decide) (fun h1 => ?_) (fun h1 => ?_)
  · skip
    refine xi_iconst (v := 0) dX1_hasDoor_16 rfl ?_
    refine xi_zret (v := 0) dX1_hasDoor_17 rfl (by decide) ?_
    exact h
  · skip
    refine xi_iload_n dX1_hasDoor_4 rfl ?_
    refine xi_aload_n dX1_hasDoor_5 rfl ?_
    refine xe_getI (v := nI (gD G)) dX1_hasDoor_6 fgX1_46 cc1 rfl (cg_D hG) ?_
    refine xi_icmp_ge 16 dX1_hasDoor_9 (by decide) (fun h9 => ?_) (fun z => hc.elim (fun q => absurd q h1) (fun q => absurd q z))
    refine xi_iconst (v := 0) dX1_hasDoor_16 rfl ?_
    refine xi_zret (v := 0) dX1_hasDoor_17 rfl (by decide) ?_
    exact h

set_option maxHeartbeats 4000000 in
set_option maxRecDepth 100000 in
theorem g_hasDR {G : xG} {M : xM} {Q : Option Value → xM → Prop} (hW : wG G) (hG : CG G M) {x : Int32} (h : Q (some (.int (xb (xix x (gD G)).isSome))) M) : WP shC mX1_hasDoor 0 [some (.ref 1), some (.int x)] [] M Q := by
  obtain ⟨b1, b2, b3, b4, b5, b6, b7, b8, b9, wmap, wlink, wk0, wk1, b10, b11, wword⟩ := id hW
  rcases xix_cases x (n := gD G) (by omega) with ⟨ec, hc⟩ | ⟨k, hk, rfl, ec⟩
  · rw [ec] at h; exact g_hasDF hW hG hc h
  · rw [ec] at h; exact g_hasDT hW hG hk h

set_option maxHeartbeats 4000000 in
set_option maxRecDepth 100000 in
theorem g_hasPT {G : xG} {M : xM} {Q : Option Value → xM → Prop} (hW : wG G) (hG : CG G M) {k : Nat} (hk : k < gP G) (h : Q (some (.int (xb true))) M) : WP shC mX1_hasPlayer 0 [some (.ref 1), some (.int (nI k))] [] M Q := by
  obtain ⟨b1, b2, b3, b4, b5, b6, b7, b8, b9, wmap, wlink, wk0, wk1, b10, b11, wword⟩ := id hW
  refine xi_iload_n dX1_hasPlayer_0 rfl ?_
  refine xn_if_lt k 16 dX1_hasPlayer_1 (by decide) rfl (by omega) ?_
  refine xi_iload_n dX1_hasPlayer_4 rfl ?_
  refine xi_aload_n dX1_hasPlayer_5 rfl ?_
  refine xe_getI (v := nI (gP G)) dX1_hasPlayer_6 fgX1_40 cc1 rfl (cg_P hG) ?_
  refine xn_icmp_ge k (gP G) 16 dX1_hasPlayer_9 (by decide) rfl rfl (by omega) (by omega) (fun z => absurd z (by omega)) (fun h9 => ?_)
  refine xi_iconst (v := 1) dX1_hasPlayer_12 rfl ?_
  refine xi_goto 17 dX1_hasPlayer_13 (by decide) ?_
  refine xi_zret (v := 1) dX1_hasPlayer_17 rfl (by decide) ?_
  exact h

set_option maxHeartbeats 4000000 in
set_option maxRecDepth 100000 in
theorem g_hasPF {G : xG} {M : xM} {Q : Option Value → xM → Prop} (hW : wG G) (hG : CG G M) {x : Int32} (hc : x < 0 ∨ nI (gP G) ≤ x) (h : Q (some (.int (xb false))) M) : WP shC mX1_hasPlayer 0 [some (.ref 1), some (.int x)] [] M Q := by
  obtain ⟨b1, b2, b3, b4, b5, b6, b7, b8, b9, wmap, wlink, wk0, wk1, b10, b11, wword⟩ := id hW
  refine xi_iload_n dX1_hasPlayer_0 rfl ?_
  refine xi_if_lt 16 dX1_hasPlayer_1 (by decide) (fun h1 => ?_) (fun h1 => ?_)
  · skip
    refine xi_iconst (v := 0) dX1_hasPlayer_16 rfl ?_
    refine xi_zret (v := 0) dX1_hasPlayer_17 rfl (by decide) ?_
    exact h
  · skip
    refine xi_iload_n dX1_hasPlayer_4 rfl ?_
    refine xi_aload_n dX1_hasPlayer_5 rfl ?_
    refine xe_getI (v := nI (gP G)) dX1_hasPlayer_6 fgX1_40 cc1 rfl (cg_P hG) ?_
    refine xi_icmp_ge 16 dX1_hasPlayer_9 (by decide) (fun h9 => ?_) (fun z => hc.elim (fun q => absurd q h1) (fun q => absurd q z))
    refine xi_iconst (v := 0) dX1_hasPlayer_16 rfl ?_
    refine xi_zret (v := 0) dX1_hasPlayer_17 rfl (by decide) ?_
    exact h

set_option maxHeartbeats 4000000 in
set_option maxRecDepth 100000 in
theorem g_hasPR {G : xG} {M : xM} {Q : Option Value → xM → Prop} (hW : wG G) (hG : CG G M) {x : Int32} (h : Q (some (.int (xb (xix x (gP G)).isSome))) M) : WP shC mX1_hasPlayer 0 [some (.ref 1), some (.int x)] [] M Q := by
  obtain ⟨b1, b2, b3, b4, b5, b6, b7, b8, b9, wmap, wlink, wk0, wk1, b10, b11, wword⟩ := id hW
  rcases xix_cases x (n := gP G) (by omega) with ⟨ec, hc⟩ | ⟨k, hk, rfl, ec⟩
  · rw [ec] at h; exact g_hasPF hW hG hc h
  · rw [ec] at h; exact g_hasPT hW hG hk h

set_option maxHeartbeats 4000000 in
set_option maxRecDepth 100000 in
theorem n_isPT {G : xG} {M : xM} {Q : Option Value → xM → Prop} (hW : wG G) (hG : MG G M) {k : Nat} (hk : k < gP G) (h : Q (some (.int (xb true))) M) : WP shM mX10_isPlayer 0 [some (.ref 0), some (.int (nI k))] [] M Q := by
  obtain ⟨b1, b2, b3, b4, b5, b6, b7, b8, b9, wmap, wlink, wk0, wk1, b10, b11, wword⟩ := id hW
  refine xi_iload_n dX10_isPlayer_0 rfl ?_
  refine xi_iconst (v := 0) dX10_isPlayer_1 rfl ?_
  refine xi_aload_n dX10_isPlayer_2 rfl ?_
  refine xe_getI (v := nI (gP G)) dX10_isPlayer_3 fgX10_16 mm0 rfl (mg_P hG) ?_
  refine xi_iconst (v := 1) dX10_isPlayer_6 rfl ?_
  refine xi_isub dX10_isPlayer_7 ?_
  refine xi_callS [.int (nI k), .int 0, .int (nI (gP G) - 1)] [] dX10_isPlayer_8 zX10_in mlX10_137 rfl rfl rfl (Nat.le_of_ble_eq_true rfl) (Nat.le_of_ble_eq_true rfl) ⟨by decide, by decide⟩ ?_
  refine n_in1T (k := k) (n := (gP G)) (by omega) (by omega) ?_
  show WP _ _ 11 _ [.int (xb true)] _ _
  refine xb_zret (st := []) true dX10_isPlayer_11 rfl rfl ?_
  exact h

set_option maxHeartbeats 4000000 in
set_option maxRecDepth 100000 in
theorem n_isPF {G : xG} {M : xM} {Q : Option Value → xM → Prop} (hW : wG G) (hG : MG G M) {x : Int32} (hc : x < 0 ∨ nI (gP G) ≤ x) (h : Q (some (.int (xb false))) M) : WP shM mX10_isPlayer 0 [some (.ref 0), some (.int x)] [] M Q := by
  obtain ⟨b1, b2, b3, b4, b5, b6, b7, b8, b9, wmap, wlink, wk0, wk1, b10, b11, wword⟩ := id hW
  refine xi_iload_n dX10_isPlayer_0 rfl ?_
  refine xi_iconst (v := 0) dX10_isPlayer_1 rfl ?_
  refine xi_aload_n dX10_isPlayer_2 rfl ?_
  refine xe_getI (v := nI (gP G)) dX10_isPlayer_3 fgX10_16 mm0 rfl (mg_P hG) ?_
  refine xi_iconst (v := 1) dX10_isPlayer_6 rfl ?_
  refine xi_isub dX10_isPlayer_7 ?_
  refine xi_callS [.int x, .int 0, .int (nI (gP G) - 1)] [] dX10_isPlayer_8 zX10_in mlX10_137 rfl rfl rfl (Nat.le_of_ble_eq_true rfl) (Nat.le_of_ble_eq_true rfl) ⟨by decide, by decide⟩ ?_
  refine n_in1F (n := (gP G)) (by omega) hc ?_
  show WP _ _ 11 _ [.int (xb false)] _ _
  refine xb_zret (st := []) false dX10_isPlayer_11 rfl rfl ?_
  exact h

set_option maxHeartbeats 4000000 in
set_option maxRecDepth 100000 in
theorem n_isPR {G : xG} {M : xM} {Q : Option Value → xM → Prop} (hW : wG G) (hG : MG G M) {x : Int32} (h : Q (some (.int (xb (xix x (gP G)).isSome))) M) : WP shM mX10_isPlayer 0 [some (.ref 0), some (.int x)] [] M Q := by
  obtain ⟨b1, b2, b3, b4, b5, b6, b7, b8, b9, wmap, wlink, wk0, wk1, b10, b11, wword⟩ := id hW
  rcases xix_cases x (n := gP G) (by omega) with ⟨ec, hc⟩ | ⟨k, hk, rfl, ec⟩
  · rw [ec] at h; exact n_isPF hW hG hc h
  · rw [ec] at h; exact n_isPT hW hG hk h

set_option maxHeartbeats 4000000 in
set_option maxRecDepth 100000 in
theorem n_isCT {G : xG} {M : xM} {Q : Option Value → xM → Prop} (hW : wG G) (hG : MG G M) {k : Nat} (hk : k < gN G) (h : Q (some (.int (xb true))) M) : WP shM mX10_isCell 0 [some (.ref 0), some (.int (nI k))] [] M Q := by
  obtain ⟨b1, b2, b3, b4, b5, b6, b7, b8, b9, wmap, wlink, wk0, wk1, b10, b11, wword⟩ := id hW
  refine xi_iload_n dX10_isCell_0 rfl ?_
  refine xi_iconst (v := 0) dX10_isCell_1 rfl ?_
  refine xi_aload_n dX10_isCell_2 rfl ?_
  refine xe_getI (v := nI (gw G)) dX10_isCell_3 fgX10_7 mm0 rfl (mg_w hG) ?_
  refine xi_aload_n dX10_isCell_6 rfl ?_
  refine xe_getI (v := nI (gh G)) dX10_isCell_7 fgX10_13 mm0 rfl (mg_h hG) ?_
  refine xe_imul dX10_isCell_10 (v := nI (gN G)) (pk_mul _ _) ?_
  refine xi_iconst (v := 1) dX10_isCell_11 rfl ?_
  refine xi_isub dX10_isCell_12 ?_
  refine xi_callS [.int (nI k), .int 0, .int (nI (gN G) - 1)] [] dX10_isCell_13 zX10_in mlX10_137 rfl rfl rfl (Nat.le_of_ble_eq_true rfl) (Nat.le_of_ble_eq_true rfl) ⟨by decide, by decide⟩ ?_
  refine n_in1T (k := k) (n := (gN G)) (by omega) (by omega) ?_
  show WP _ _ 16 _ [.int (xb true)] _ _
  refine xb_zret (st := []) true dX10_isCell_16 rfl rfl ?_
  exact h

set_option maxHeartbeats 4000000 in
set_option maxRecDepth 100000 in
theorem n_isCF {G : xG} {M : xM} {Q : Option Value → xM → Prop} (hW : wG G) (hG : MG G M) {x : Int32} (hc : x < 0 ∨ nI (gN G) ≤ x) (h : Q (some (.int (xb false))) M) : WP shM mX10_isCell 0 [some (.ref 0), some (.int x)] [] M Q := by
  obtain ⟨b1, b2, b3, b4, b5, b6, b7, b8, b9, wmap, wlink, wk0, wk1, b10, b11, wword⟩ := id hW
  refine xi_iload_n dX10_isCell_0 rfl ?_
  refine xi_iconst (v := 0) dX10_isCell_1 rfl ?_
  refine xi_aload_n dX10_isCell_2 rfl ?_
  refine xe_getI (v := nI (gw G)) dX10_isCell_3 fgX10_7 mm0 rfl (mg_w hG) ?_
  refine xi_aload_n dX10_isCell_6 rfl ?_
  refine xe_getI (v := nI (gh G)) dX10_isCell_7 fgX10_13 mm0 rfl (mg_h hG) ?_
  refine xe_imul dX10_isCell_10 (v := nI (gN G)) (pk_mul _ _) ?_
  refine xi_iconst (v := 1) dX10_isCell_11 rfl ?_
  refine xi_isub dX10_isCell_12 ?_
  refine xi_callS [.int x, .int 0, .int (nI (gN G) - 1)] [] dX10_isCell_13 zX10_in mlX10_137 rfl rfl rfl (Nat.le_of_ble_eq_true rfl) (Nat.le_of_ble_eq_true rfl) ⟨by decide, by decide⟩ ?_
  refine n_in1F (n := (gN G)) (by omega) hc ?_
  show WP _ _ 16 _ [.int (xb false)] _ _
  refine xb_zret (st := []) false dX10_isCell_16 rfl rfl ?_
  exact h

set_option maxHeartbeats 4000000 in
set_option maxRecDepth 100000 in
theorem n_isCR {G : xG} {M : xM} {Q : Option Value → xM → Prop} (hW : wG G) (hG : MG G M) {x : Int32} (h : Q (some (.int (xb (xix x (gN G)).isSome))) M) : WP shM mX10_isCell 0 [some (.ref 0), some (.int x)] [] M Q := by
  obtain ⟨b1, b2, b3, b4, b5, b6, b7, b8, b9, wmap, wlink, wk0, wk1, b10, b11, wword⟩ := id hW
  rcases xix_cases x (n := gN G) (by omega) with ⟨ec, hc⟩ | ⟨k, hk, rfl, ec⟩
  · rw [ec] at h; exact n_isCF hW hG hc h
  · rw [ec] at h; exact n_isCT hW hG hk h

set_option maxHeartbeats 4000000 in
set_option maxRecDepth 100000 in
theorem g_isTpT {sh : List xSh} {M : xM} {Q : Option Value → xM → Prop} {k : Nat} (hk : k < 6) (h : Q (some (.int (xb true))) M) : WP sh mX9_isTape 0 [some (.int (nI k))] [] M Q := by
  refine xi_iload_n dX9_isTape_0 rfl ?_
  refine xn_if_lt k 14 dX9_isTape_1 (by decide) rfl (by omega) ?_
  refine xi_iload_n dX9_isTape_4 rfl ?_
  refine xi_bipush (v := 6) dX9_isTape_5 (by decide) ?_
  refine xn_icmp_ge k 6 14 dX9_isTape_7 (by decide) rfl rfl (by omega) (by omega) (fun z => absurd z (by omega)) (fun h7 => ?_)
  refine xi_iconst (v := 1) dX9_isTape_10 rfl ?_
  refine xi_goto 15 dX9_isTape_11 (by decide) ?_
  refine xi_zret (v := 1) dX9_isTape_15 rfl (by decide) ?_
  exact h

set_option maxHeartbeats 4000000 in
set_option maxRecDepth 100000 in
theorem g_isTpF {sh : List xSh} {M : xM} {Q : Option Value → xM → Prop} {x : Int32} (hc : x < 0 ∨ nI 6 ≤ x) (h : Q (some (.int (xb false))) M) : WP sh mX9_isTape 0 [some (.int x)] [] M Q := by
  refine xi_iload_n dX9_isTape_0 rfl ?_
  refine xi_if_lt 14 dX9_isTape_1 (by decide) (fun h1 => ?_) (fun h1 => ?_)
  · skip
    refine xi_iconst (v := 0) dX9_isTape_14 rfl ?_
    refine xi_zret (v := 0) dX9_isTape_15 rfl (by decide) ?_
    exact h
  · skip
    refine xi_iload_n dX9_isTape_4 rfl ?_
    refine xi_bipush (v := 6) dX9_isTape_5 (by decide) ?_
    refine xi_icmp_ge 14 dX9_isTape_7 (by decide) (fun h7 => ?_) (fun z => hc.elim (fun q => absurd q h1) (fun q => absurd q z))
    refine xi_iconst (v := 0) dX9_isTape_14 rfl ?_
    refine xi_zret (v := 0) dX9_isTape_15 rfl (by decide) ?_
    exact h

set_option maxHeartbeats 4000000 in
set_option maxRecDepth 100000 in
theorem g_isTpR {sh : List xSh} {M : xM} {Q : Option Value → xM → Prop} {x : Int32} (h : Q (some (.int (xb (xix x 6).isSome))) M) : WP sh mX9_isTape 0 [some (.int x)] [] M Q := by
  rcases xix_cases x (n := 6) (by omega) with ⟨ec, hc⟩ | ⟨k, hk, rfl, ec⟩
  · rw [ec] at h; exact g_isTpF hc h
  · rw [ec] at h; exact g_isTpT hk h

set_option maxHeartbeats 4000000 in
set_option maxRecDepth 100000 in
theorem n_isTpT {sh : List xSh} {M : xM} {Q : Option Value → xM → Prop} {k : Nat} (hk : k < 6) (h : Q (some (.int (xb true))) M) : WP sh mX10_isTape 0 [some (.int (nI k))] [] M Q := by
  refine xi_iload_n dX10_isTape_0 rfl ?_
  refine xi_iconst (v := 0) dX10_isTape_1 rfl ?_
  refine xi_iconst (v := 5) dX10_isTape_2 rfl ?_
  refine xi_callS [.int (nI k), .int 0, .int 5] [] dX10_isTape_3 zX10_in mlX10_137 rfl rfl rfl (Nat.le_of_ble_eq_true rfl) (Nat.le_of_ble_eq_true rfl) ⟨by decide, by decide⟩ ?_
  refine n_inT (k := k) (l := 0) (r := 5) (by omega) (by omega) (by omega) ?_
  show WP _ _ 6 _ [.int (xb true)] _ _
  refine xb_zret (st := []) true dX10_isTape_6 rfl rfl ?_
  exact h

set_option maxHeartbeats 4000000 in
set_option maxRecDepth 100000 in
theorem n_isTpF {sh : List xSh} {M : xM} {Q : Option Value → xM → Prop} {x : Int32} (hc : x < 0 ∨ nI 6 ≤ x) (h : Q (some (.int (xb false))) M) : WP sh mX10_isTape 0 [some (.int x)] [] M Q := by
  refine xi_iload_n dX10_isTape_0 rfl ?_
  refine xi_iconst (v := 0) dX10_isTape_1 rfl ?_
  refine xi_iconst (v := 5) dX10_isTape_2 rfl ?_
  refine xi_callS [.int x, .int 0, .int 5] [] dX10_isTape_3 zX10_in mlX10_137 rfl rfl rfl (Nat.le_of_ble_eq_true rfl) (Nat.le_of_ble_eq_true rfl) ⟨by decide, by decide⟩ ?_
  refine n_inF (l := 0) (r := 5) (at_rg (by omega) hc (by omega)) ?_
  show WP _ _ 6 _ [.int (xb false)] _ _
  refine xb_zret (st := []) false dX10_isTape_6 rfl rfl ?_
  exact h

set_option maxHeartbeats 4000000 in
set_option maxRecDepth 100000 in
theorem n_isTpR {sh : List xSh} {M : xM} {Q : Option Value → xM → Prop} {x : Int32} (h : Q (some (.int (xb (xix x 6).isSome))) M) : WP sh mX10_isTape 0 [some (.int x)] [] M Q := by
  rcases xix_cases x (n := 6) (by omega) with ⟨ec, hc⟩ | ⟨k, hk, rfl, ec⟩
  · rw [ec] at h; exact n_isTpF hc h
  · rw [ec] at h; exact n_isTpT hk h

