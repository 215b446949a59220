/-! the class's world out of the blocks that its constructor makes -/
def xWo (cA : Nat → ClassId) (ad : Nat → Nat) (o : Nat) (sh : List xSh) : va_W := sh.mapIdx (fun i q => (ad (o + i), xE cA ad zM (o + i) q))
theorem xWo_0 {cA : Nat → ClassId} {ad : Nat → Nat} {sh : List xSh} : xW cA ad sh zM = xWo cA ad 0 sh := by simp only [xW, xWo, Nat.zero_add]
theorem xWo_app {cA : Nat → ClassId} {ad : Nat → Nat} {s1 s2 : List xSh} {o n : Nat} (h : s1.length = n) : xWo cA ad o (s1 ++ s2) = xWo cA ad o s1 ++ xWo cA ad (o + n) s2 := by
  subst h
  simp only [xWo, List.mapIdx_append]
  congr 1
  refine congrArg (fun f => List.mapIdx f s2) ?_
  funext i q
  rw [Nat.add_comm i, Nat.add_assoc]
def bS (f : Nat → List xSh) : Nat → List xSh
  | 0 => []
  | n + 1 => bS f n ++ f n
theorem bS_len {f : Nat → List xSh} {z : Nat} (h : ∀ j, (f j).length = z) : ∀ n : Nat, (bS f n).length = z * n
  | 0 => rfl
  | n + 1 => by rw [bS, List.length_append, bS_len h n, h n, Nat.mul_succ]
theorem xWo_b {cA : Nat → ClassId} {ad : Nat → Nat} {f : Nat → List xSh} {z o : Nat} {sh : List xSh} {B : Nat → Nat → Nat} (hz : ∀ j, (f j).length = z) : ∀ n : Nat, (∀ j, j < n → xWo cA ad (o + z * j) (f j) = xW cA (B j) sh zM) → xWo cA ad o (bS f n) = bW cA sh B n
  | 0, _ => rfl
  | n + 1, h => by rw [bS, bW, xWo_app (bS_len hz n), xWo_b hz n (fun j hj => h j (by omega)), h n (by omega)]
def stS (r : Nat) : List xSh := [.inl (5, [some 1, some (r + 1), some (r + 2), some (r + 3), some (r + 4), some (r + 5), some (r + 6), some (r + 7), some (r + 8), some (r + 9)]), .inr (0, 16, xno), .inr (0, 16, xno), .inr (0, 16, xno), .inr (0, 4, xno), .inr (0, 4, xno), .inr (0, 4, xno), .inr (0, 4, xno), .inr (0, 4, xno), .inr (0, 8, xno)]
def suS (r : Nat) : List xSh := [.inl (6, [some (r + 1), some (r + 3), none, none, none, none]), .inl (3, [some (r + 2), none, none, none]), .inr (0, 65, xno), .inl (3, [some (r + 4), none, none, none]), .inr (0, 65, xno)]
def tpS (r : Nat) : List xSh := [.inl (7, [none, none, none, some (r + 1), some (r + 2)]), .inr (3, 80, xno), .inr (0, 100, xno)]
def gS : List xSh := [.inl (0, [none, none, none, none, none, none, some 2, some 3, some 4, some 5, some 6, some 7, some 8]), .inr (0, 100, xno), .inr (0, 100, xno), .inr (0, 100, xno), .inr (0, 100, xno), .inr (0, 400, xno), .inr (0, 8, xno), .inr (0, 16, xno)]
def rS : List xSh := [.inl (4, [some 10]), .inr (4, 16, xg_ring)]
def lS : List xSh := [.inl (4, [some 12]), .inr (4, 1, xg_lone)]
def loS : List xSh := [.inl (2, [some 14, some 15, some 16]), .inr (0, 2000, xno), .inr (1, 2000, xno), .inr (1, 2000, xno)]
def leS : List xSh := [.inl (1, [none, none, none, none, some 18, some 19]), .inr (0, 256, xno), .inr (0, 32, xno)]
def aS : List xSh := [.inr (5, 4, xg_sus), .inr (6, 6, xg_tap), .inr (0, 4, xno)]
def c0S : List xSh := [.inl (8, [some 1, some 231, some 9, some 11, some 13, some 17, some 20, some 21, some 22, none, none, none, none, none, none])]
set_option maxRecDepth 100000 in
theorem shC_seg : shC = c0S ++ (gS ++ (rS ++ (lS ++ (loS ++ (leS ++ (aS ++ (bS (fun p => suS (23 + 5 * p)) 4 ++ (bS (fun d => tpS (43 + 3 * d)) 6 ++ (bS (fun k => stS (61 + 10 * k)) 16 ++ (bS (fun k => stS (221 + 10 * k)) 1 ++ stS 231)))))))))) := rfl
theorem xWo_st {cA : Nat → ClassId} {ad B : Nat → Nat} {r : Nat} (h : ∀ i, i < 10 → ad (r + i) = B i) (h1 : ad 1 = B 10) : xWo cA ad r (stS r) = xW cA B shX6 zM := by
  have e0 : ad r = B 0 := h 0 (by decide)
  have e1 : ad (r + 1) = B 1 := h 1 (by decide)
  have e2 : ad (r + 2) = B 2 := h 2 (by decide)
  have e3 : ad (r + 3) = B 3 := h 3 (by decide)
  have e4 : ad (r + 4) = B 4 := h 4 (by decide)
  have e5 : ad (r + 5) = B 5 := h 5 (by decide)
  have e6 : ad (r + 6) = B 6 := h 6 (by decide)
  have e7 : ad (r + 7) = B 7 := h 7 (by decide)
  have e8 : ad (r + 8) = B 8 := h 8 (by decide)
  have e9 : ad (r + 9) = B 9 := h 9 (by decide)
  simp only [xWo, xW, stS, shX6, List.mapIdx_cons, List.mapIdx_nil, xE, xF, xA, zM, Nat.zero_add, Nat.add_zero, Nat.reduceAdd, e0, e1, e2, e3, e4, e5, e6, e7, e8, e9, h1]
theorem xWo_su {cA : Nat → ClassId} {ad B : Nat → Nat} {r : Nat} (h : ∀ i, i < 5 → ad (r + i) = B i) : xWo cA ad r (suS r) = xW cA B shX7 zM := by
  have e0 : ad r = B 0 := h 0 (by decide)
  have e1 : ad (r + 1) = B 1 := h 1 (by decide)
  have e2 : ad (r + 2) = B 2 := h 2 (by decide)
  have e3 : ad (r + 3) = B 3 := h 3 (by decide)
  have e4 : ad (r + 4) = B 4 := h 4 (by decide)
  simp only [xWo, xW, suS, shX7, List.mapIdx_cons, List.mapIdx_nil, xE, xF, xA, zM, Nat.zero_add, Nat.add_zero, Nat.reduceAdd, e0, e1, e2, e3, e4]
theorem xWo_tp {cA : Nat → ClassId} {ad B : Nat → Nat} {r : Nat} (h : ∀ i, i < 3 → ad (r + i) = B i) : xWo cA ad r (tpS r) = xW cA B shX8 zM := by
  have e0 : ad r = B 0 := h 0 (by decide)
  have e1 : ad (r + 1) = B 1 := h 1 (by decide)
  have e2 : ad (r + 2) = B 2 := h 2 (by decide)
  simp only [xWo, xW, tpS, shX8, List.mapIdx_cons, List.mapIdx_nil, xE, xF, xA, zM, Nat.zero_add, Nat.add_zero, Nat.reduceAdd, e0, e1, e2]
theorem xWo_g {cA : Nat → ClassId} {ad B : Nat → Nat} (h : ∀ i, i < 8 → ad (1 + i) = B i) : xWo cA ad 1 gS = xW cA B shX1 zM := by
  have e0 : ad 1 = B 0 := h 0 (by decide)
  have e1 : ad 2 = B 1 := h 1 (by decide)
  have e2 : ad 3 = B 2 := h 2 (by decide)
  have e3 : ad 4 = B 3 := h 3 (by decide)
  have e4 : ad 5 = B 4 := h 4 (by decide)
  have e5 : ad 6 = B 5 := h 5 (by decide)
  have e6 : ad 7 = B 6 := h 6 (by decide)
  have e7 : ad 8 = B 7 := h 7 (by decide)
  simp only [xWo, xW, gS, shX1, List.mapIdx_cons, List.mapIdx_nil, xE, xF, xA, zM, Nat.zero_add, Nat.add_zero, Nat.reduceAdd, e0, e1, e2, e3, e4, e5, e6, e7]
theorem xWo_lo {cA : Nat → ClassId} {ad B : Nat → Nat} (h : ∀ i, i < 4 → ad (13 + i) = B i) : xWo cA ad 13 loS = xW cA B shX3 zM := by
  have e0 : ad 13 = B 0 := h 0 (by decide)
  have e1 : ad 14 = B 1 := h 1 (by decide)
  have e2 : ad 15 = B 2 := h 2 (by decide)
  have e3 : ad 16 = B 3 := h 3 (by decide)
  simp only [xWo, xW, loS, shX3, List.mapIdx_cons, List.mapIdx_nil, xE, xF, xA, zM, Nat.zero_add, Nat.add_zero, Nat.reduceAdd, e0, e1, e2, e3]
theorem xWo_le {cA : Nat → ClassId} {ad B : Nat → Nat} (h : ∀ i, i < 3 → ad (17 + i) = B i) : xWo cA ad 17 leS = xW cA B shX2 zM := by
  have e0 : ad 17 = B 0 := h 0 (by decide)
  have e1 : ad 18 = B 1 := h 1 (by decide)
  have e2 : ad 19 = B 2 := h 2 (by decide)
  simp only [xWo, xW, leS, shX2, List.mapIdx_cons, List.mapIdx_nil, xE, xF, xA, zM, Nat.zero_add, Nat.add_zero, Nat.reduceAdd, e0, e1, e2]
def adC0 (h0 r0 r1 l0 l1 qs qt qn : Nat) (aG aF aL aE : Nat → Nat) (BR BL BS BT : Nat → Nat → Nat) (k : Nat) : Nat :=
  if k < 1 then h0 else if k < 9 then aG (k - 1) else if k < 10 then r0 else if k < 11 then r1 else if k < 12 then l0 else if k < 13 then l1 else if k < 17 then aL (k - 13) else if k < 20 then aE (k - 17) else if k < 21 then qs else if k < 22 then qt else if k < 23 then qn else
  if k < 43 then BS ((k - 23) / 5) ((k - 23) % 5) else if k < 61 then BT ((k - 43) / 3) ((k - 43) % 3) else if k < 221 then BR ((k - 61) / 10) ((k - 61) % 10) else if k < 231 then BL ((k - 221) / 10) ((k - 221) % 10) else aF (k - 231)
section A0
variable {h0 r0 r1 l0 l1 qs qt qn : Nat} {aG aF aL aE : Nat → Nat} {BR BL BS BT : Nat → Nat → Nat}
set_option linter.unusedSectionVars false
theorem a0_g {i : Nat} (h : i < 8) : adC0 h0 r0 r1 l0 l1 qs qt qn aG aF aL aE BR BL BS BT (1 + i) = aG i := by
  unfold adC0
  rw [if_neg (by omega), if_pos (by omega), Nat.add_sub_cancel_left]
theorem a0_lo {i : Nat} (h : i < 4) : adC0 h0 r0 r1 l0 l1 qs qt qn aG aF aL aE BR BL BS BT (13 + i) = aL i := by
  unfold adC0
  iterate 6 rw [if_neg (by omega)]
  rw [if_pos (by omega), Nat.add_sub_cancel_left]
theorem a0_le {i : Nat} (h : i < 3) : adC0 h0 r0 r1 l0 l1 qs qt qn aG aF aL aE BR BL BS BT (17 + i) = aE i := by
  unfold adC0
  iterate 7 rw [if_neg (by omega)]
  rw [if_pos (by omega), Nat.add_sub_cancel_left]
theorem a0_su {p i : Nat} (hp : p < 4) (h : i < 5) : adC0 h0 r0 r1 l0 l1 qs qt qn aG aF aL aE BR BL BS BT (23 + 5 * p + i) = BS p i := by
  unfold adC0
  iterate 11 rw [if_neg (by omega)]
  rw [if_pos (by omega), show (23 + 5 * p + i - 23) / 5 = p by omega, show (23 + 5 * p + i - 23) % 5 = i by omega]
theorem a0_tp {p i : Nat} (hp : p < 6) (h : i < 3) : adC0 h0 r0 r1 l0 l1 qs qt qn aG aF aL aE BR BL BS BT (43 + 3 * p + i) = BT p i := by
  unfold adC0
  iterate 12 rw [if_neg (by omega)]
  rw [if_pos (by omega), show (43 + 3 * p + i - 43) / 3 = p by omega, show (43 + 3 * p + i - 43) % 3 = i by omega]
theorem a0_st {p i : Nat} (hp : p < 16) (h : i < 10) : adC0 h0 r0 r1 l0 l1 qs qt qn aG aF aL aE BR BL BS BT (61 + 10 * p + i) = BR p i := by
  unfold adC0
  iterate 13 rw [if_neg (by omega)]
  rw [if_pos (by omega), show (61 + 10 * p + i - 61) / 10 = p by omega, show (61 + 10 * p + i - 61) % 10 = i by omega]
theorem a0_sl {p i : Nat} (hp : p < 1) (h : i < 10) : adC0 h0 r0 r1 l0 l1 qs qt qn aG aF aL aE BR BL BS BT (221 + 10 * p + i) = BL p i := by
  unfold adC0
  iterate 14 rw [if_neg (by omega)]
  rw [if_pos (by omega), show (221 + 10 * p + i - 221) / 10 = p by omega, show (221 + 10 * p + i - 221) % 10 = i by omega]
theorem a0_sf {i : Nat} : adC0 h0 r0 r1 l0 l1 qs qt qn aG aF aL aE BR BL BS BT (231 + i) = aF i := by
  unfold adC0
  iterate 15 rw [if_neg (by omega)]
  rw [Nat.add_sub_cancel_left]
/-- the world, block by block -/
def wC0 (cA : Nat → ClassId) (h0 r0 r1 l0 l1 qs qt qn : Nat) (aG aF aL aE : Nat → Nat) (BR BL BS BT : Nat → Nat → Nat) : va_W :=
  [(h0, .inr (8, [.ref (aG 0), .ref (aF 0), .ref r0, .ref l0, .ref (aL 0), .ref (aE 0), .ref qs, .ref qt, .ref qn, .int 0, .int 0, .int 0, .int 0, .int 0, .int 0]))] ++ (xW cA aG shX1 zM ++ ([(r0, .inr (4, [.ref r1])), (r1, .inl (cA 4, 16, .inr (.inr (.inr (.inr (bR BR 16))))))] ++ ([(l0, .inr (4, [.ref l1])), (l1, .inl (cA 4, 1, .inr (.inr (.inr (.inr (bR BL 1))))))] ++ (xW cA aL shX3 zM ++ (xW cA aE shX2 zM ++ ([(qs, .inl (cA 5, 4, .inr (.inr (.inr (.inr (bR BS 4)))))), (qt, .inl (cA 6, 6, .inr (.inr (.inr (.inr (bR BT 6)))))), (qn, .inl (cA 0, 4, .inl (fun _ => 0)))] ++ (bW cA shX7 BS 4 ++ (bW cA shX8 BT 6 ++ (bW cA shX6 BR 16 ++ (bW cA shX6 BL 1 ++ xW cA aF shX6 zM))))))))))
theorem xW_C0 (cA : Nat → ClassId) (gR : ∀ p, p < 16 → BR p 10 = aG 0) (gL : ∀ p, p < 1 → BL p 10 = aG 0) (gF : aF 10 = aG 0) : xW cA (adC0 h0 r0 r1 l0 l1 qs qt qn aG aF aL aE BR BL BS BT) shC zM = wC0 cA h0 r0 r1 l0 l1 qs qt qn aG aF aL aE BR BL BS BT := by
  obtain ⟨ad, had⟩ : ∃ ad, ad = adC0 h0 r0 r1 l0 l1 qs qt qn aG aF aL aE BR BL BS BT := ⟨_, rfl⟩
  have e1 : ad 1 = aG 0 := by rw [had]; exact a0_g (i := 0) (by decide)
  have e0 : ad 0 = h0 := by rw [had]; rfl
  have e9 : ad 9 = r0 := by rw [had]; rfl
  have e10 : ad 10 = r1 := by rw [had]; rfl
  have e11 : ad 11 = l0 := by rw [had]; rfl
  have e12 : ad 12 = l1 := by rw [had]; rfl
  have e13 : ad 13 = aL 0 := by rw [had]; exact a0_lo (i := 0) (by decide)
  have e17 : ad 17 = aE 0 := by rw [had]; exact a0_le (i := 0) (by decide)
  have e20 : ad 20 = qs := by rw [had]; rfl
  have e21 : ad 21 = qt := by rw [had]; rfl
  have e22 : ad 22 = qn := by rw [had]; rfl
  have e231 : ad 231 = aF 0 := by rw [had]; exact a0_sf (i := 0)
  have k1 : xWo cA ad 1 gS = xW cA aG shX1 zM := xWo_g (fun i h => by rw [had]; exact a0_g h)
  have k2 : xWo cA ad 13 loS = xW cA aL shX3 zM := xWo_lo (fun i h => by rw [had]; exact a0_lo h)
  have k3 : xWo cA ad 17 leS = xW cA aE shX2 zM := xWo_le (fun i h => by rw [had]; exact a0_le h)
  have k4 : xWo cA ad 23 (bS (fun p => suS (23 + 5 * p)) 4) = bW cA shX7 BS 4 := xWo_b (z := 5) (fun _ => rfl) 4 (fun p hp => xWo_su (fun i h => by rw [had]; exact a0_su hp h))
  have k5 : xWo cA ad 43 (bS (fun p => tpS (43 + 3 * p)) 6) = bW cA shX8 BT 6 := xWo_b (z := 3) (fun _ => rfl) 6 (fun p hp => xWo_tp (fun i h => by rw [had]; exact a0_tp hp h))
  have k6 : xWo cA ad 61 (bS (fun p => stS (61 + 10 * p)) 16) = bW cA shX6 BR 16 := xWo_b (z := 10) (fun _ => rfl) 16 (fun p hp => xWo_st (fun i h => by rw [had]; exact a0_st hp h) (e1.trans (gR p hp).symm))
  have k7 : xWo cA ad 221 (bS (fun p => stS (221 + 10 * p)) 1) = bW cA shX6 BL 1 := xWo_b (z := 10) (fun _ => rfl) 1 (fun p hp => xWo_st (fun i h => by rw [had]; exact a0_sl hp h) (e1.trans (gL p hp).symm))
  have k8 : xWo cA ad 231 (stS 231) = xW cA aF shX6 zM := xWo_st (fun i h => by rw [had]; exact a0_sf) (e1.trans gF.symm)
  have f1 : (fun k => (xg_ring k).map ad) = bR BR 16 := by
    funext k
    simp only [xg_ring, bR]
    by_cases h : k < 16
    · rw [if_pos h, if_pos h, Option.map_some]
      exact congrArg some (by rw [had]; exact a0_st (i := 0) h (by decide))
    · rw [if_neg h, if_neg h, Option.map_none]
  have f2 : (fun k => (xg_lone k).map ad) = bR BL 1 := by
    funext k
    simp only [xg_lone, bR]
    by_cases h : k < 1
    · have h9 : k = 0 := by omega
      subst h9
      rw [if_pos h, if_pos h, Option.map_some]
      exact congrArg some (by rw [had]; exact a0_sl (p := 0) (i := 0) h (by decide))
    · rw [if_neg h, if_neg h, Option.map_none]
  have f3 : (fun k => (xg_sus k).map ad) = bR BS 4 := by
    funext k
    simp only [xg_sus, bR]
    by_cases h : k < 4
    · rw [if_pos h, if_pos h, Option.map_some]
      exact congrArg some (by rw [had]; exact a0_su (i := 0) h (by decide))
    · rw [if_neg h, if_neg h, Option.map_none]
  have f4 : (fun k => (xg_tap k).map ad) = bR BT 6 := by
    funext k
    simp only [xg_tap, bR]
    by_cases h : k < 6
    · rw [if_pos h, if_pos h, Option.map_some]
      exact congrArg some (by rw [had]; exact a0_tp (i := 0) h (by decide))
    · rw [if_neg h, if_neg h, Option.map_none]
  have g0 : xWo cA ad 0 c0S = [(h0, .inr (8, [.ref (aG 0), .ref (aF 0), .ref r0, .ref l0, .ref (aL 0), .ref (aE 0), .ref qs, .ref qt, .ref qn, .int 0, .int 0, .int 0, .int 0, .int 0, .int 0]))] := by
    simp only [xWo, c0S, List.mapIdx_cons, List.mapIdx_nil, xE, xF, xA, zM, Nat.zero_add, Nat.add_zero, Nat.reduceAdd, e0, e1, e9, e11, e13, e17, e20, e21, e22, e231]
  have g1 : xWo cA ad 9 rS = [(r0, .inr (4, [.ref r1])), (r1, .inl (cA 4, 16, .inr (.inr (.inr (.inr (bR BR 16))))))] := by
    simp only [xWo, rS, List.mapIdx_cons, List.mapIdx_nil, xE, xF, xA, zM, Nat.zero_add, Nat.add_zero, Nat.reduceAdd, e9, e10, f1]
  have g2 : xWo cA ad 11 lS = [(l0, .inr (4, [.ref l1])), (l1, .inl (cA 4, 1, .inr (.inr (.inr (.inr (bR BL 1))))))] := by
    simp only [xWo, lS, List.mapIdx_cons, List.mapIdx_nil, xE, xF, xA, zM, Nat.zero_add, Nat.add_zero, Nat.reduceAdd, e11, e12, f2]
  have g3 : xWo cA ad 20 aS = [(qs, .inl (cA 5, 4, .inr (.inr (.inr (.inr (bR BS 4)))))), (qt, .inl (cA 6, 6, .inr (.inr (.inr (.inr (bR BT 6)))))), (qn, .inl (cA 0, 4, .inl (fun _ => 0)))] := by
    simp only [xWo, aS, List.mapIdx_cons, List.mapIdx_nil, xE, xF, xA, zM, Nat.zero_add, Nat.add_zero, Nat.reduceAdd, e20, e21, e22, f3, f4]
  rw [← had, xWo_0, shC_seg, xWo_app (n := 1) rfl, xWo_app (n := 8) rfl, xWo_app (n := 2) rfl, xWo_app (n := 2) rfl, xWo_app (n := 4) rfl, xWo_app (n := 3) rfl, xWo_app (n := 3) rfl, xWo_app (n := 20) rfl, xWo_app (n := 18) rfl, xWo_app (n := 160) rfl, xWo_app (n := 10) rfl]
  simp only [Nat.reduceAdd]
  rw [g0, k1, g1, g2, k2, k3, g3, k4, k5, k6, k7, k8]
  rfl
end A0
/-- the order in which the constructor makes the blocks, and the order in which they are numbered -/
theorem perm_C0 {α : Type} (m t s G F r1 R1 r2 R2 L E S T n : List α) : (m ++ (t ++ (s ++ (G ++ F ++ (r1 ++ R1) ++ (r2 ++ R2) ++ L ++ E ++ S) ++ T ++ n))).Perm (m ++ (G ++ (r1 ++ (r2 ++ (L ++ (E ++ (s ++ (t ++ n) ++ (S ++ (T ++ (R1 ++ (R2 ++ F))))))))))) := by
  haveI : DecidableEq α := fun x y => Classical.propDecidable (x = y)
  rw [List.perm_iff_count]
  intro a
  simp only [List.count_append]
  omega
