/-! the law's loop -/
set_option maxHeartbeats 8000000 in
set_option maxRecDepth 100000 in
theorem law_loop {p : Program} {l : Launch} {e : Env} {s : State} {m : MethodId} {below : List Frame} {meth : Method} {c : Code} {b L : Nat} {xs : Nat → Int32} {D : va_G} {cA : Nat → ClassId} {adC adM : Nat → Nat} {o : Nat} (K : LK p l s m meth c b L xs D cA adC adM o) (hL3 : L ≤ 3072) :
    ∀ (n i : Nat) (X : xX) (MC MM : xM) (f : Nat → Int64) (H : Heap) (locs : List Loc) (ls : Array Slot) (cells slots : Nat), L + 6 ≤ i + n → i ≤ L + 5 → wX X → RepC X MC → RepM X MM → LH D cA adC adM o s MC MM f H locs → cells + (L + 6 - i) ≤ 601024 ∧ slots + 6 * (L + 6 - i) ≤ 7293034 → lv_has ls 8 (lvL b adC adM o i) →
      W p l e room_1 s m #[.ref b] below meth c H locs cells slots (lw_Z below #[Value.ref b] s) (F0 m 23 ls []) := by
  intro n
  induction n with
  | zero =>
    intro i X MC MM f H locs ls cells slots h1 h2
    exact absurd h1 (by omega)
  | succ n ih =>
    intro i X MC MM f H locs ls cells slots h1 h2 hX hC hM XX hbud hl
    obtain ⟨⟨hx, hb, hr, hml, hown, hts, hXx, hbl, hlocks, hgv⟩, hlt, hK, hZ0, hZx, hLD⟩ := id K
    have hL : L < 2 ^ 31 := by omega
    refine lv_iload hx hb dL_law_23 (lv_at hl 4 rfl) ?_
    refine lv_aload_n hx hb dL_law_25 rfl (lv_at hl 0 rfl) ?_
    refine va_slen hx hb hXx hbl (Nat.not_le.mpr hbl) XX.2.2.2 dL_law_26 ?_
    refine lv_bipush (v := nI 6) hx hb dL_law_27 rfl ?_
    refine lv_isub hx hb dL_law_29 ?_
    have e6 : (nI L - nI 6).toInt = (L : Int) - 6 := pk_sub_toInt (by omega) (by decide)
    have ei : (nI i).toInt = (i : Int) := nI_toInt (by omega)
    refine lv_icmp_gt (tgt := 1568) hx hb dL_law_30 (by decide) (fun z => ?_) (fun z => ?_)
    · refine lv_iconst (v := 1) hx hb dL_law_1568 (by decide) ?_
      refine va_forget (fun q hq => XX.2.2.2.2.2 q hq) ?_
      refine W.widen (k := 601024) (n := 7293034) (by omega) (by omega) ?_
      exact lw_ret hx hb hr hlocks dL_law_1569
    · have hi : i + 6 ≤ L := by
        rcases Nat.lt_or_ge L (i + 6) with q | q
        · exact absurd (Int32.lt_iff_toInt_lt.mpr (by show (nI L - nI 6).toInt < (nI i).toInt; rw [e6, ei]; omega)) z
        · exact q
      refine lv_aload_n hx hb dL_law_33 rfl (lv_at hl 0 rfl) ?_
      refine lv_iload hx hb dL_law_34 (lv_at hl 4 rfl) ?_
      refine va_sld hx hb hXx hbl (Nat.not_le.mpr hbl) XX.2.2.2 (vp_in_nI (by omega) hL) dL_law_36 ?_
      refine lv_bipush (v := 63) hx hb dL_law_37 rfl ?_
      refine lv_iand hx hb dL_law_39 ?_
      obtain ⟨j, hj, ej⟩ := pk_andE (xs (nI i).toNatClampNeg) (m := 63) 6 (by decide)
      rw [ej]
      have hcs : cells + 1 ≤ 601024 ∧ slots + 6 ≤ 7293034 := by omega
      have fin : LF p l e s m below meth c b D cA adC adM o (lw_Z below #[Value.ref b] s) cells slots i := by
        intro X MC MM f H locs ls hX hC hM XX hl
        refine lv_iinc (v := nI (i + 6)) (lv' := [(4, .int (nI (i + 6))), (0, .ref b), (1, .ref (adC 0)), (2, .ref (adM 0)), (3, .ref o)]) hx hb dL_law_1562 hl (k := 4) rfl (by rw [← nI_add]; rfl) (by decide) rfl (fun ls hl => ?_)
        refine lv_goto (tgt := 23) hx hb dL_law_1565 (by decide) ?_
        exact ih (i + 6) X MC MM f H locs ls _ _ (by omega) (by omega) hX hC hM XX (by omega) (lv_sub hl [1, 2, 3, 4, 0] rfl)
      rcases Nat.lt_or_ge j 35 with hj35 | hj35
      · match j, hj35 with
        | 0, _ => exact lv_tableIn (tgt := 196) hx hb dL_law_40 (by decide) (by decide) rfl (by decide) (lc_begin K hX hC hM XX hL hi hcs hl fin)
        | 1, _ => exact lv_tableIn (tgt := 245) hx hb dL_law_40 (by decide) (by decide) rfl (by decide) (lc_wall K hX hC hM XX hL hi hcs hl fin)
        | 2, _ => exact lv_tableIn (tgt := 270) hx hb dL_law_40 (by decide) (by decide) rfl (by decide) (lc_door K hX hC hM XX hL hi hcs hl fin)
        | 3, _ => exact lv_tableIn (tgt := 307) hx hb dL_law_40 (by decide) (by decide) rfl (by decide) (lc_plate K hX hC hM XX hL hi hcs hl fin)
        | 4, _ => exact lv_tableIn (tgt := 344) hx hb dL_law_40 (by decide) (by decide) rfl (by decide) (lc_place K hX hC hM XX hL hi hcs hl fin)
        | 5, _ => exact lv_tableIn (tgt := 381) hx hb dL_law_40 (by decide) (by decide) rfl (by decide) (lc_late K hX hC hM XX hL hi hcs hl fin)
        | 6, _ => exact lv_tableIn (tgt := 406) hx hb dL_law_40 (by decide) (by decide) rfl (by decide) (lc_risk K hX hC hM XX hL hi hcs hl fin)
        | 7, _ => exact lv_tableIn (tgt := 431) hx hb dL_law_40 (by decide) (by decide) rfl (by decide) (lc_pack K hX hC hM XX hL hi hcs hl fin)
        | 8, _ => exact lv_tableIn (tgt := 505) hx hb dL_law_40 (by decide) (by decide) rfl (by decide) (lc_feed K hX hC hM XX hL hi hcs hl fin)
        | 9, _ => exact lv_tableIn (tgt := 574) hx hb dL_law_40 (by decide) (by decide) rfl (by decide) (lc_step K hX hC hM XX hL hi hcs hl fin)
        | 10, _ => exact lv_tableIn (tgt := 587) hx hb dL_law_40 (by decide) (by decide) rfl (by decide) (lc_body K hX hC hM XX hL hi hcs hl fin)
        | 11, _ => exact lv_tableIn (tgt := 624) hx hb dL_law_40 (by decide) (by decide) rfl (by decide) (lc_thing K hX hC hM XX hL hi hcs hl fin)
        | 12, _ => exact lv_tableIn (tgt := 661) hx hb dL_law_40 (by decide) (by decide) rfl (by decide) (lc_open K hX hC hM XX hL hi hcs hl fin)
        | 13, _ => exact lv_tableIn (tgt := 686) hx hb dL_law_40 (by decide) (by decide) rfl (by decide) (lc_sees K hX hC hM XX hL hi hcs hl fin)
        | 14, _ => exact lv_tableIn (tgt := 723) hx hb dL_law_40 (by decide) (by decide) rfl (by decide) (lc_told K hX hC hM XX hL hi hcs hl fin)
        | 15, _ => exact lv_tableIn (tgt := 760) hx hb dL_law_40 (by decide) (by decide) rfl (by decide) (lc_letter K hX hC hM XX hL hi hcs hl fin)
        | 16, _ => exact lv_tableIn (tgt := 797) hx hb dL_law_40 (by decide) (by decide) rfl (by decide) (lc_digest K hX hC hM XX hL hi hcs hl fin)
        | 17, _ => exact lv_tableIn (tgt := 822) hx hb dL_law_40 (by decide) (by decide) rfl (by decide) (lc_replay K hX hC hM XX hL hi hcs hl fin)
        | 18, _ => exact lv_tableIn (tgt := 847) hx hb dL_law_40 (by decide) (by decide) rfl (by decide) (lc_fall K hX hC hM XX hL hi hcs hl fin)
        | 19, _ => exact lv_tableIn (tgt := 860) hx hb dL_law_40 (by decide) (by decide) rfl (by decide) (lc_act K hX hC hM XX hL hi hcs hl fin)
        | 20, _ => exact lv_tableIn (tgt := 897) hx hb dL_law_40 (by decide) (by decide) rfl (by decide) (lc_hit K hX hC hM XX hL hi hcs hl fin)
        | 21, _ => exact lv_tableIn (tgt := 934) hx hb dL_law_40 (by decide) (by decide) rfl (by decide) (lc_taken K hX hC hM XX hL hi hcs hl fin)
        | 22, _ => exact lv_tableIn (tgt := 971) hx hb dL_law_40 (by decide) (by decide) rfl (by decide) (lc_back K hX hC hM XX hL hi hcs hl fin)
        | 23, _ => exact lv_tableIn (tgt := 996) hx hb dL_law_40 (by decide) (by decide) rfl (by decide) (lc_watch K hX hC hM XX hL hi hcs hl fin)
        | 24, _ => exact lv_tableIn (tgt := 1045) hx hb dL_law_40 (by decide) (by decide) rfl (by decide) (lc_fair K hX hC hM XX hL hi hcs hl fin)
        | 25, _ => exact lv_tableIn (tgt := 1082) hx hb dL_law_40 (by decide) (by decide) rfl (by decide) (lc_tape K hX hC hM XX hL hi hcs hl fin)
        | 26, _ => exact lv_tableIn (tgt := 1131) hx hb dL_law_40 (by decide) (by decide) rfl (by decide) (lc_view K hX hC hM XX hL hi hcs hl fin)
        | 27, _ => exact lv_tableIn (tgt := 1168) hx hb dL_law_40 (by decide) (by decide) rfl (by decide) (lc_clear K hX hC hM XX hL hi hcs hl fin)
        | 28, _ => exact lv_tableIn (tgt := 1193) hx hb dL_law_40 (by decide) (by decide) rfl (by decide) (lc_put K hX hC hM XX hL hi hcs hl fin)
        | 29, _ => exact lv_tableIn (tgt := 1274) hx hb dL_law_40 (by decide) (by decide) rfl (by decide) (lc_at K hX hC hM XX hL hi hcs hl fin)
        | 30, _ => exact lv_tableIn (tgt := 1341) hx hb dL_law_40 (by decide) (by decide) rfl (by decide) (lc_copy K hX hC hM XX hL hi hcs hl fin)
        | 31, _ => exact lv_tableIn (tgt := 1414) hx hb dL_law_40 (by decide) (by decide) rfl (by decide) (lc_play K hX hC hM XX hL hi hcs hl fin)
        | 32, _ => exact lv_tableIn (tgt := 1475) hx hb dL_law_40 (by decide) (by decide) rfl (by decide) (lc_kept K hX hC hM XX hL hi hcs hl fin)
        | 33, _ => exact lv_tableIn (tgt := 1512) hx hb dL_law_40 (by decide) (by decide) rfl (by decide) (lc_toss K hX hC hM XX hL hi hcs hl fin)
        | 34, _ => exact lv_tableIn (tgt := 1537) hx hb dL_law_40 (by decide) (by decide) rfl (by decide) (lc_count K hX hC hM XX hL hi hcs hl fin)
        | k + 35, h => exact absurd h (by omega)
      · refine lv_tableOut (tgt := 1562) hx hb dL_law_40 (Or.inr ?_) (by decide) ?_
        · rw [nI_toInt (by omega)]; omega
        · refine W.widen (k := cells + 1) (n := slots + 6) (by omega) (by omega) ?_
          exact fin X MC MM f H locs ls hX hC hM XX hl
