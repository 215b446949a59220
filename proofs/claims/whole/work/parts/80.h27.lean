theorem wx_risk {X : xX} (hX : wX X) (x0 : Int32) : wX (st_risk X x0).2 := by
  obtain ⟨G, S0, now, late, risk, A, L, sq, nl, rf, hr, lg, w, tp⟩ := X
  obtain ⟨hW, hw0, wn, wl, wr, wA_, wsq, wnl, wmo, wtk, wwt, wtp, wO0, wB0⟩ := id hX
  obtain ⟨b1, b2, b3, b4, b5, b6, b7, b8, b9, wmap, wlink, wk0, wk1, b10, b11, wword⟩ := id hW
  rcases xrg_cases x0 (lo := 0) (hi := 1048576) (by omega) (by omega) with ⟨ec0, hc0⟩ | ⟨k0, hk0, hl0, rfl, ec0⟩
  · simp only [st_risk, ec0]; exact hX
  simp only [st_risk, ec0]
  exact ⟨hW, hw0, wn, wl, hl0, wA_, wsq, wnl, wmo, wtk, wwt, wtp, wO0, wB0⟩
theorem wx_late {X : xX} (hX : wX X) (x0 : Int32) : wX (st_late X x0).2 := by
  obtain ⟨G, S0, now, late, risk, A, L, sq, nl, rf, hr, lg, w, tp⟩ := X
  obtain ⟨hW, hw0, wn, wl, wr, wA_, wsq, wnl, wmo, wtk, wwt, wtp, wO0, wB0⟩ := id hX
  obtain ⟨b1, b2, b3, b4, b5, b6, b7, b8, b9, wmap, wlink, wk0, wk1, b10, b11, wword⟩ := id hW
  rcases xrg_cases x0 (lo := 0) (hi := 8) (by omega) (by omega) with ⟨ec0, hc0⟩ | ⟨k0, hk0, hl0, rfl, ec0⟩
  · simp only [st_late, ec0]; exact hX
  simp only [st_late, ec0]
  split
  · exact hX
  · rename_i q
    refine ⟨hW, hw0, wn, hl0, wr, wA_, wsq, wnl, wmo, wtk, ?_, wtp, wO0, wB0⟩
    rw [show now - k0 = now - late by omega]; exact wwt
theorem wx_wall {X : xX} (hX : wX X) (x0 : Int32) : wX (st_wall X x0).2 := by
  obtain ⟨G, S0, now, late, risk, A, L, sq, nl, rf, hr, lg, w, tp⟩ := X
  obtain ⟨hW, hw0, wn, wl, wr, wA_, wsq, wnl, wmo, wtk, wwt, wtp, wO0, wB0⟩ := id hX
  obtain ⟨b1, b2, b3, b4, b5, b6, b7, b8, b9, wmap, wlink, wk0, wk1, b10, b11, wword⟩ := id hW
  rcases xix_cases x0 (n := gN G) (by omega) with ⟨ec0, hc0⟩ | ⟨k0, hk0, rfl, ec0⟩
  · simp only [st_wall, ec0]; exact hX
  simp only [st_wall, ec0]
  split
  · exact hX
  · split
    · exact hX
    · exact ⟨wG_map hW (by omega), wS_gr hw0 rfl rfl rfl rfl, wn, wl, wr, wA_, wsq, wnl, wmo, wtk, wwt, wtp, wO0, wB0⟩
theorem wx_door {X : xX} (hX : wX X) (x0 : Int32) (x1 : Int32) : wX (st_door X x0 x1).2 := by
  obtain ⟨G, S0, now, late, risk, A, L, sq, nl, rf, hr, lg, w, tp⟩ := X
  obtain ⟨hW, hw0, wn, wl, wr, wA_, wsq, wnl, wmo, wtk, wwt, wtp, wO0, wB0⟩ := id hX
  obtain ⟨b1, b2, b3, b4, b5, b6, b7, b8, b9, wmap, wlink, wk0, wk1, b10, b11, wword⟩ := id hW
  rcases xix_cases x0 (n := gN G) (by omega) with ⟨ec0, hc0⟩ | ⟨k0, hk0, rfl, ec0⟩
  · simp only [st_door, ec0]; exact hX
  rcases xix_cases x1 (n := 16) (by omega) with ⟨ec1, hc1⟩ | ⟨k1, hk1, rfl, ec1⟩
  · simp only [st_door, ec0, ec1]; exact hX
  simp only [st_door, ec0, ec1]
  split
  · exact hX
  · split
    · exact hX
    · split
      · exact hX
      · exact ⟨wG_door hW (by omega) (by omega), wS_gr hw0 rfl rfl rfl rfl, wn, wl, wr, wA_, wsq, wnl, wmo, wtk, wwt, wtp, wO0, wB0⟩
theorem wx_plate {X : xX} (hX : wX X) (x0 : Int32) (x1 : Int32) : wX (st_plate X x0 x1).2 := by
  obtain ⟨G, S0, now, late, risk, A, L, sq, nl, rf, hr, lg, w, tp⟩ := X
  obtain ⟨hW, hw0, wn, wl, wr, wA_, wsq, wnl, wmo, wtk, wwt, wtp, wO0, wB0⟩ := id hX
  obtain ⟨b1, b2, b3, b4, b5, b6, b7, b8, b9, wmap, wlink, wk0, wk1, b10, b11, wword⟩ := id hW
  rcases xix_cases x0 (n := gN G) (by omega) with ⟨ec0, hc0⟩ | ⟨k0, hk0, rfl, ec0⟩
  · simp only [st_plate, ec0]; exact hX
  rcases xix_cases x1 (n := gD G) (by omega) with ⟨ec1, hc1⟩ | ⟨k1, hk1, rfl, ec1⟩
  · simp only [st_plate, ec0, ec1]; exact hX
  simp only [st_plate, ec0, ec1]
  split
  · exact hX
  · split
    · exact hX
    · exact ⟨wG_plate hW hk1, wS_plates (wS_gr hw0 rfl rfl rfl rfl), wn, wl, wr, wA_, wsq, wnl, wmo, wtk, wwt, wtp, fun n => by rw [show sO (mplates (uPlate G k0 k1) S0) = sO S0 from (mplL_O _ _ _).1]; exact wO0 n, fun n => by rw [show sB (mplates (uPlate G k0 k1) S0) = sB S0 from (mplL_O _ _ _).2]; exact wB0 n⟩
theorem wx_place {X : xX} (hX : wX X) (x0 : Int32) (x1 : Int32) : wX (st_place X x0 x1).2 := by
  obtain ⟨G, S0, now, late, risk, A, L, sq, nl, rf, hr, lg, w, tp⟩ := X
  obtain ⟨hW, hw0, wn, wl, wr, wA_, wsq, wnl, wmo, wtk, wwt, wtp, wO0, wB0⟩ := id hX
  obtain ⟨b1, b2, b3, b4, b5, b6, b7, b8, b9, wmap, wlink, wk0, wk1, b10, b11, wword⟩ := id hW
  rcases xrg_cases x0 (lo := 1) (hi := 7) (by omega) (by omega) with ⟨ec0, hc0⟩ | ⟨k0, hk0, hl0, rfl, ec0⟩
  · simp only [st_place, ec0]; exact hX
  rcases xix_cases x1 (n := gN G) (by omega) with ⟨ec1, hc1⟩ | ⟨k1, hk1, rfl, ec1⟩
  · simp only [st_place, ec0, ec1]; exact hX
  simp only [st_place, ec0, ec1]
  split
  · exact hX
  · split
    · exact hX
    · split
      · exact hX
      · exact ⟨wG_thing hW hk0 hl0 (by omega), wS_thing hW hw0 hk1, wn, wl, wr, wA_, wsq, wnl, wmo, wtk, wwt, wtp, wO0, wB0⟩
theorem wT_up {tp : Nat → xT} {d : Nat} {q : xT} (h : ∀ d, wT (tp d)) (hq : wT q) : ∀ e, wT (va_up tp d q e) := fun e => by
  by_cases z : e = d
  · rw [z, up_s]; exact hq
  · rw [up_n z]; exact h e
theorem wx_clear {X : xX} (hX : wX X) (x0 : Int32) : wX (st_clear X x0).2 := by
  obtain ⟨G, S0, now, late, risk, A, L, sq, nl, rf, hr, lg, w, tp⟩ := X
  obtain ⟨hW, hw0, wn, wl, wr, wA_, wsq, wnl, wmo, wtk, wwt, wtp, wO0, wB0⟩ := id hX
  obtain ⟨b1, b2, b3, b4, b5, b6, b7, b8, b9, wmap, wlink, wk0, wk1, b10, b11, wword⟩ := id hW
  rcases xix_cases x0 (n := 6) (by omega) with ⟨ec0, hc0⟩ | ⟨k0, hk0, rfl, ec0⟩
  · simp only [st_clear, ec0]; exact hX
  simp only [st_clear, ec0]
  exact ⟨hW, hw0, wn, wl, wr, wA_, wsq, wnl, wmo, wtk, wwt, wT_up wtp ⟨Nat.zero_le _, (wtp k0).2.1, (wtp k0).2.2.1, fun z => absurd z.1 (show ¬ 1 ≤ 0 by decide)⟩, wO0, wB0⟩
theorem wx_view {X : xX} (hX : wX X) (x0 : Int32) (x1 : Int32) : wX (st_view X x0 x1).2 := by
  obtain ⟨G, S0, now, late, risk, A, L, sq, nl, rf, hr, lg, w, tp⟩ := X
  obtain ⟨hW, hw0, wn, wl, wr, wA_, wsq, wnl, wmo, wtk, wwt, wtp, wO0, wB0⟩ := id hX
  obtain ⟨b1, b2, b3, b4, b5, b6, b7, b8, b9, wmap, wlink, wk0, wk1, b10, b11, wword⟩ := id hW
  rcases xix_cases x0 (n := 6) (by omega) with ⟨ec0, hc0⟩ | ⟨k0, hk0, rfl, ec0⟩
  · simp only [st_view, ec0]; exact hX
  rcases xix_cases x1 (n := gP G) (by omega) with ⟨ec1, hc1⟩ | ⟨k1, hk1, rfl, ec1⟩
  · simp only [st_view, ec0, ec1]; exact hX
  simp only [st_view, ec0, ec1]
  have mv := mvc_le (f := mtell G (Zf G A S0 now) k1) (gN G)
  exact ⟨hW, hw0, wn, wl, wr, wA_, wsq, wnl, wmo, wtk, wwt, wT_up wtp ⟨Nat.le_refl _, b10, Nat.le_trans mv b10, fun z => absurd z.2 (show ¬ 5 ≤ 4 by decide)⟩, wO0, wB0⟩
theorem wx_tape {X : xX} (hX : wX X) (x0 : Int32) (x1 : Int32) (x2 : Int32) : wX (st_tape X x0 x1 x2).2 := by
  obtain ⟨G, S0, now, late, risk, A, L, sq, nl, rf, hr, lg, w, tp⟩ := X
  obtain ⟨hW, hw0, wn, wl, wr, wA_, wsq, wnl, wmo, wtk, wwt, wtp, wO0, wB0⟩ := id hX
  obtain ⟨b1, b2, b3, b4, b5, b6, b7, b8, b9, wmap, wlink, wk0, wk1, b10, b11, wword⟩ := id hW
  rcases xix_cases x0 (n := 6) (by omega) with ⟨ec0, hc0⟩ | ⟨k0, hk0, rfl, ec0⟩
  · simp only [st_tape, ec0]; exact hX
  rcases xrg_cases x1 (lo := 1) (hi := 4) (by omega) (by omega) with ⟨ec1, hc1⟩ | ⟨k1, hk1, hl1, rfl, ec1⟩
  · simp only [st_tape, ec0, ec1]; exact hX
  simp only [st_tape, ec0, ec1]
  split
  · exact hX
  · rcases xrg_cases x2 (lo := 0) (hi := 80) (by omega) (by omega) with ⟨ec2, hc2⟩ | ⟨k2, hk2, hl2, rfl, ec2⟩
    · simp only [ec2]; exact hX
    · simp only [ec2]; exact ⟨hW, hw0, wn, wl, wr, wA_, wsq, wnl, wmo, wtk, wwt, wT_up wtp ⟨show k1 ≤ 5 by omega, show k2 ≤ 100 by omega, (wtp k0).2.2.1, fun _ => hl2⟩, wO0, wB0⟩
theorem wx_put {X : xX} (hX : wX X) (x0 : Int32) (x1 : Int32) (x2 : Int64) : wX (st_put X x0 x1 x2).2 := by
  obtain ⟨G, S0, now, late, risk, A, L, sq, nl, rf, hr, lg, w, tp⟩ := X
  obtain ⟨hW, hw0, wn, wl, wr, wA_, wsq, wnl, wmo, wtk, wwt, wtp, wO0, wB0⟩ := id hX
  obtain ⟨b1, b2, b3, b4, b5, b6, b7, b8, b9, wmap, wlink, wk0, wk1, b10, b11, wword⟩ := id hW
  rcases xix_cases x0 (n := 6) (by omega) with ⟨ec0, hc0⟩ | ⟨k0, hk0, rfl, ec0⟩
  · simp only [st_put, ec0]; exact hX
  simp only [st_put, ec0]
  have z0 := wtp k0
  split
  · exact hX
  · split
    · exact hX
    · rcases xix_cases x1 (n := (tp k0).2.1) (by have := z0.2.1; omega) with ⟨ec1, hc1⟩ | ⟨k1, hk1, rfl, ec1⟩
      · simp only [ec1]; exact hX
      · simp only [ec1]; exact ⟨hW, hw0, wn, wl, wr, wA_, wsq, wnl, wmo, wtk, wwt, wT_up wtp z0, wO0, wB0⟩
theorem wx_copy {X : xX} (hX : wX X) (x0 : Int32) (x1 : Int32) (x2 : Int32) (x3 : Int32) (x4 : Int32) : wX (st_copy X x0 x1 x2 x3 x4).2 := by
  obtain ⟨G, S0, now, late, risk, A, L, sq, nl, rf, hr, lg, w, tp⟩ := X
  obtain ⟨hW, hw0, wn, wl, wr, wA_, wsq, wnl, wmo, wtk, wwt, wtp, wO0, wB0⟩ := id hX
  obtain ⟨b1, b2, b3, b4, b5, b6, b7, b8, b9, wmap, wlink, wk0, wk1, b10, b11, wword⟩ := id hW
  rcases xix_cases x0 (n := 6) (by omega) with ⟨ec0, hc0⟩ | ⟨k0, hk0, rfl, ec0⟩
  · simp only [st_copy, ec0]; exact hX
  rcases xix_cases x2 (n := 6) (by omega) with ⟨ec2, hc2⟩ | ⟨k2, hk2, rfl, ec2⟩
  · simp only [st_copy, ec0, ec2]; exact hX
  simp only [st_copy, ec0, ec2]
  split
  · exact hX
  · split
    · exact hX
    · rcases xrg_cases x4 (lo := 0) (hi := 80) (by omega) (by omega) with ⟨ec4, hc4⟩ | ⟨k4, hk4, hl4, rfl, ec4⟩
      · simp only [ec4]; exact hX
      rcases xrg_cases x1 (lo := 0) (hi := 80) (by omega) (by omega) with ⟨ec1, hc1⟩ | ⟨k1, hk1, hl1, rfl, ec1⟩
      · simp only [ec4, ec1]; exact hX
      rcases xrg_cases x3 (lo := 0) (hi := 80) (by omega) (by omega) with ⟨ec3, hc3⟩ | ⟨k3, hk3, hl3, rfl, ec3⟩
      · simp only [ec4, ec1, ec3]; exact hX
      simp only [ec4, ec1, ec3]
      split
      · exact ⟨hW, hw0, wn, wl, wr, wA_, wsq, wnl, wmo, wtk, wwt, wT_up wtp (wtp k2), wO0, wB0⟩
      · exact hX
theorem wx_kept {X : xX} (hX : wX X) (x0 : Int32) (x1 : Int32) : wX (st_kept X x0 x1).2 := by
  obtain ⟨G, S0, now, late, risk, A, L, sq, nl, rf, hr, lg, w, tp⟩ := X
  obtain ⟨hW, hw0, wn, wl, wr, wA_, wsq, wnl, wmo, wtk, wwt, wtp, wO0, wB0⟩ := id hX
  obtain ⟨b1, b2, b3, b4, b5, b6, b7, b8, b9, wmap, wlink, wk0, wk1, b10, b11, wword⟩ := id hW
  rcases xix_cases x0 (n := 6) (by omega) with ⟨ec0, hc0⟩ | ⟨k0, hk0, rfl, ec0⟩
  · simp only [st_kept, ec0]; exact hX
  simp only [st_kept, ec0]
  have z0 := wtp k0
  split
  · exact hX
  · split
    · exact hX
    · rcases xix_cases x1 (n := (tp k0).2.1) (by have := z0.2.1; omega) with ⟨ec1, hc1⟩ | ⟨k1, hk1, rfl, ec1⟩
      · simp only [ec1]; exact hX
      · simp only [ec1]; exact hX
theorem wx_toss {X : xX} (hX : wX X) (x0 : Int32) : wX (st_toss X x0).2 := by
  obtain ⟨G, S0, now, late, risk, A, L, sq, nl, rf, hr, lg, w, tp⟩ := X
  obtain ⟨hW, hw0, wn, wl, wr, wA_, wsq, wnl, wmo, wtk, wwt, wtp, wO0, wB0⟩ := id hX
  obtain ⟨b1, b2, b3, b4, b5, b6, b7, b8, b9, wmap, wlink, wk0, wk1, b10, b11, wword⟩ := id hW
  rcases xix_cases x0 (n := 6) (by omega) with ⟨ec0, hc0⟩ | ⟨k0, hk0, rfl, ec0⟩
  · simp only [st_toss, ec0]; exact hX
  simp only [st_toss, ec0]
  split
  · exact hX
  · split
    · exact hX
    · split <;> exact hX
theorem wx_play {X : xX} (hX : wX X) (x0 : Int32) (x1 : Int32) (x2 : Int32) (x3 : Int32) : wX (st_play X x0 x1 x2 x3).2 := by
  obtain ⟨G, S0, now, late, risk, A, L, sq, nl, rf, hr, lg, w, tp⟩ := X
  obtain ⟨hW, hw0, wn, wl, wr, wA_, wsq, wnl, wmo, wtk, wwt, wtp, wO0, wB0⟩ := id hX
  obtain ⟨b1, b2, b3, b4, b5, b6, b7, b8, b9, wmap, wlink, wk0, wk1, b10, b11, wword⟩ := id hW
  rcases xix_cases x3 (n := gP G) (by omega) with ⟨ec3, hc3⟩ | ⟨k3, hk3, rfl, ec3⟩
  · simp only [st_play, ec3]; exact hX
  rcases xrg_cases x2 (lo := 0) (hi := 80) (by omega) (by omega) with ⟨ec2, hc2⟩ | ⟨k2, hk2, hl2, rfl, ec2⟩
  · simp only [st_play, ec3, ec2]; exact hX
  rcases xix_cases x0 (n := 6) (by omega) with ⟨ec0, hc0⟩ | ⟨k0, hk0, rfl, ec0⟩
  · simp only [st_play, ec3, ec2, ec0]; exact hX
  simp only [st_play, ec3, ec2, ec0]
  have z0 := wtp k0
  split
  · exact hX
  · split
    · exact hX
    · rcases xix_cases x1 (n := (tp k0).2.1) (by have := z0.2.1; omega) with ⟨ec1, hc1⟩ | ⟨k1, hk1, rfl, ec1⟩
      · simp only [ec1]; split <;> exact hX
      · simp only [ec1]; exact wX_play _ _ _ hX hk3
theorem wx_begin {X : xX} (hX : wX X) (x0 x1 x2 : Int32) : wX (st_begin X x0 x1 x2).2 := by
  rcases xrg_cases x0 (lo := 3) (hi := 10) (by omega) (by omega) with ⟨ec0, hc0⟩ | ⟨k0, hk0, hl0, rfl, ec0⟩
  · simp only [st_begin, ec0]; exact hX
  rcases xrg_cases x1 (lo := 3) (hi := 10) (by omega) (by omega) with ⟨ec1, hc1⟩ | ⟨k1, hk1, hl1, rfl, ec1⟩
  · simp only [st_begin, ec0, ec1]; exact hX
  rcases xrg_cases x2 (lo := 1) (hi := 4) (by omega) (by omega) with ⟨ec2, hc2⟩ | ⟨k2, hk2, hl2, rfl, ec2⟩
  · simp only [st_begin, ec0, ec1, ec2]; exact hX
  simp only [st_begin, ec0, ec1, ec2]
  refine wX_0 hk0 hl0 hk1 hl1 hk2 hl2 ?_
  obtain ⟨G, S0, now, late, risk, A, L, sq, nl, rf, hr, lg, w, tp⟩ := X
  exact hX.2.2.2.2.2.2.2.2.2.2.2.1
