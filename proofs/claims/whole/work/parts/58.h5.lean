def st_risk (X : xX) (x : Int32) : Int32 × xX := match X with
  | (G, S0, now, late, risk, A, L, sq, nl, rf, hr, lg, w, tp) => match xrg x 0 1048576 with
    | none => (-1, (G, S0, now, late, risk, A, L, sq, nl, rf, hr, lg, w, tp))
    | some v => (nI risk, (G, S0, now, late, v, A, L, sq, nl, rf, hr, lg, w, tp))
def st_late (X : xX) (x : Int32) : Int32 × xX := match X with
  | (G, S0, now, late, risk, A, L, sq, nl, rf, hr, lg, w, tp) => match xrg x 0 8 with
    | none => (-1, (G, S0, now, late, risk, A, L, sq, nl, rf, hr, lg, w, tp))
    | some v => if 0 < now ∨ 0 < nl then (-2, (G, S0, now, late, risk, A, L, sq, nl, rf, hr, lg, w, tp)) else (nI late, (G, S0, now, v, risk, A, L, sq, nl, rf, hr, lg, w, tp))
def st_wall (X : xX) (x : Int32) : Int32 × xX := match X with
  | (G, S0, now, late, risk, A, L, sq, nl, rf, hr, lg, w, tp) => match xix x (gN G) with
    | none => (-1, (G, S0, now, late, risk, A, L, sq, nl, rf, hr, lg, w, tp))
    | some k => if 0 < now ∨ 0 < nl then (-2, (G, S0, now, late, risk, A, L, sq, nl, rf, hr, lg, w, tp)) else if 1 < gmap G k ∨ mhas G S0 k = true then (-3, (G, S0, now, late, risk, A, L, sq, nl, rf, hr, lg, w, tp)) else (nI (1 - gmap G k), (uMap G k (1 - gmap G k), S0, now, late, risk, A, L, sq, nl, rf, hr, lg, w, tp))
def st_door (X : xX) (x y : Int32) : Int32 × xX := match X with
  | (G, S0, now, late, risk, A, L, sq, nl, rf, hr, lg, w, tp) => match xix x (gN G) with
    | none => (-1, (G, S0, now, late, risk, A, L, sq, nl, rf, hr, lg, w, tp))
    | some k => match xix y 16 with
      | none => (-1, (G, S0, now, late, risk, A, L, sq, nl, rf, hr, lg, w, tp))
      | some v => if 0 < now ∨ 0 < nl then (-2, (G, S0, now, late, risk, A, L, sq, nl, rf, hr, lg, w, tp)) else if ¬ gmap G k = 0 ∨ mhas G S0 k = true then (-3, (G, S0, now, late, risk, A, L, sq, nl, rf, hr, lg, w, tp)) else if gD G = 8 then (-4, (G, S0, now, late, risk, A, L, sq, nl, rf, hr, lg, w, tp)) else (nI (gD G), (uDoor G k v, S0, now, late, risk, A, L, sq, nl, rf, hr, lg, w, tp))
def st_plate (X : xX) (x y : Int32) : Int32 × xX := match X with
  | (G, S0, now, late, risk, A, L, sq, nl, rf, hr, lg, w, tp) => match xix x (gN G) with
    | none => (-1, (G, S0, now, late, risk, A, L, sq, nl, rf, hr, lg, w, tp))
    | some k => match xix y (gD G) with
      | none => (-1, (G, S0, now, late, risk, A, L, sq, nl, rf, hr, lg, w, tp))
      | some d => if 0 < now ∨ 0 < nl then (-2, (G, S0, now, late, risk, A, L, sq, nl, rf, hr, lg, w, tp)) else if ¬ gmap G k = 0 then (-3, (G, S0, now, late, risk, A, L, sq, nl, rf, hr, lg, w, tp)) else (3, (uPlate G k d, mplates (uPlate G k d) S0, now, late, risk, A, L, sq, nl, rf, hr, lg, w, tp))
def st_place (X : xX) (x y : Int32) : Int32 × xX := match X with
  | (G, S0, now, late, risk, A, L, sq, nl, rf, hr, lg, w, tp) => match xrg x 1 7 with
    | none => (-1, (G, S0, now, late, risk, A, L, sq, nl, rf, hr, lg, w, tp))
    | some q => match xix y (gN G) with
      | none => (-1, (G, S0, now, late, risk, A, L, sq, nl, rf, hr, lg, w, tp))
      | some k => if 0 < now ∨ 0 < nl then (-2, (G, S0, now, late, risk, A, L, sq, nl, rf, hr, lg, w, tp)) else if gmap G k = 1 ∨ gmap G k = 2 ∨ (q ≤ 2 ∧ (mstand G S0 k).isSome = true) then (-3, (G, S0, now, late, risk, A, L, sq, nl, rf, hr, lg, w, tp)) else if gT G = 16 then (-4, (G, S0, now, late, risk, A, L, sq, nl, rf, hr, lg, w, tp)) else (nI (gT G), (uThing G q, sPut G S0 q k, now, late, risk, A, L, sq, nl, rf, hr, lg, w, tp))
def st_fall (X : xX) : Int32 × xX := (1, X)
theorem RepC_wall {G : xG} {S0 : xS} {now late risk : Nat} {A : Nat → Nat} {L : Nat → Bool} {sq : Nat → Nat} {nl : Nat} {rf hr : Int32} {lg : xE2} {w : xw} {tp : Nat → xT} {M : xM} (hC : RepC (G, S0, now, late, risk, A, L, sq, nl, rf, hr, lg, w, tp) M) (e0 : now = 0) {k v : Nat} (hv : v ≤ 1) : RepC (uMap G k v, S0, now, late, risk, A, L, sq, nl, rf, hr, lg, w, tp) (xa M 2 (upd (M.2.1 2) k (nI v))) := by
  subst e0
  obtain ⟨a, b, c, d, e, f, g, i, j⟩ := RepC_0.mp hC
  exact RepC_0.mpr ⟨CG_map a hv, b.sm (sC2.xa (by omega)), ⟨c.1.sm (sC2.xa (by omega)), fun n hn => by rw [xa_n (by decide)]; exact c.2 n hn⟩, d.sm (sC2.xa (by omega)), e.sm (sC2.xa (by omega)), f.sm (sC2.xa (by omega)), g.sm (sC2.xa (by omega)), i.sm (sC2.xa (by omega)), j.sm (sC2.xa (by omega))⟩
theorem CS_door {G : xG} {S : xS} {M : xM} {r k v : Nat} (h : CS G S M r) (h0 : M.2.1 (r + 9) (gD G) = sO S (gD G)) : CS (uDoor G k v) S M r := ⟨h.1, h.2.1, h.2.2.1, h.2.2.2.1, h.2.2.2.2.1, h.2.2.2.2.2.1, h.2.2.2.2.2.2.1, h.2.2.2.2.2.2.2.1, fun n hn => by
  change n < gD G + 1 at hn
  by_cases e : n = gD G
  · rw [e]; exact h0
  · exact h.2.2.2.2.2.2.2.2 n (by omega)⟩
theorem RepC_door {G : xG} {S0 : xS} {now late risk : Nat} {A : Nat → Nat} {L : Nat → Bool} {sq : Nat → Nat} {nl : Nat} {rf hr : Int32} {lg : xE2} {w : xw} {tp : Nat → xT} {M : xM} (hC : RepC (G, S0, now, late, risk, A, L, sq, nl, rf, hr, lg, w, tp) M) (e0 : now = 0) {k v : Nat} (hd : gD G < 8) (hO : ∀ n, sO S0 n = 0) : RepC (uDoor G k v, S0, now, late, risk, A, L, sq, nl, rf, hr, lg, w, tp) (xf (xa (xa (xa M 2 (upd (M.2.1 2) k 2)) 3 (upd (M.2.1 3) k (nI (gD G)))) 7 (upd (M.2.1 7) (gD G) (nI v))) 1 4 (nI (gD G + 1))) := by
  subst e0
  obtain ⟨a, b, c, d, e, f, g, i, j⟩ := RepC_0.mp hC
  have fr : ∀ lo hi, 8 < lo ∨ hi < 1 → sC2 lo hi M (xf (xa (xa (xa M 2 (upd (M.2.1 2) k 2)) 3 (upd (M.2.1 3) k (nI (gD G)))) 7 (upd (M.2.1 7) (gD G) (nI v))) 1 4 (nI (gD G + 1))) := fun lo hi q => (((sC2.xa (by omega)).tr (sC2.xa (by omega))).tr (sC2.xa (by omega))).tr (sC2.xf (by omega))
  exact RepC_0.mpr ⟨CG_door a, ⟨CS_door (b.1.sm (fr _ _ (by omega))) ((b.2.1 _ hd).trans (hO _).symm), b.2.1, b.2.2⟩, ⟨CS_door (c.1.sm (fr _ _ (by omega))) ((c.2 _ hd).trans (hO _).symm), c.2⟩, d.sm (fr _ _ (by omega)), e.sm (fr _ _ (by omega)), f.sm (fr _ _ (by omega)), g.sm (fr _ _ (by omega)), i.sm (fr _ _ (by omega)), j.sm (fr _ _ (by omega))⟩
theorem Cp.fr' {r q : Nat} {M M2 : xM} {lo hi : Nat} (h : Cp 9 r q M M2) (z : r + 9 < lo ∨ hi < r + 1) : sC2 lo hi M M2 := sC2.fr h.1 z
theorem mplL_O {G : xG} : ∀ (f p : Nat) (S : xS), sO (mplL G p f S) = sO S ∧ sB (mplL G p f S) = sB S
  | 0, p, S => ⟨rfl, rfl⟩
  | f + 1, p, S => by
    rw [mplL]
    obtain ⟨h1, h2⟩ := mplL_O (G := G) f (p + 1) (if 0 < sL S p ∧ gmap G (mpos S p) = 3 then uK S p (sK S p ||| ((1 : Int32) <<< (nI (glink G (mpos S p)) &&& 31))) else S)
    rw [h1, h2]
    split <;> exact ⟨rfl, rfl⟩
theorem RepC_plate {G : xG} {S0 : xS} {now late risk : Nat} {A : Nat → Nat} {L : Nat → Bool} {sq : Nat → Nat} {nl : Nat} {rf hr : Int32} {lg : xE2} {w : xw} {tp : Nat → xT} {M : xM} {M2 M3 : xM} {k d : Nat} (hC : RepC (G, S0, now, late, risk, A, L, sq, nl, rf, hr, lg, w, tp) M) (e0 : now = 0) (hW : wG (uPlate G k d)) (f1 : Fk8 231 (xa (xa M 2 (upd (M.2.1 2) k 3)) 3 (upd (M.2.1 3) k (nI d))) M2) (s1 : CS (uPlate G k d) (mplates (uPlate G k d) S0) M2 231) (f2 : Cp 9 61 231 M2 M3) : RepC (uPlate G k d, mplates (uPlate G k d) S0, now, late, risk, A, L, sq, nl, rf, hr, lg, w, tp) M3 := by
  subst e0
  obtain ⟨a, b, c, dd, e, f, g, i, j⟩ := RepC_0.mp hC
  have fr : ∀ lo hi, 3 < lo ∨ hi < 2 → sC2 lo hi M (xa (xa M 2 (upd (M.2.1 2) k 3)) 3 (upd (M.2.1 3) k (nI d))) := fun lo hi q => (sC2.xa (by omega)).tr (sC2.xa (by omega))
  have fr2 : ∀ lo hi, (3 < lo ∨ hi < 2) → (240 < lo ∨ hi < 232) → (70 < lo ∨ hi < 62) → sC2 lo hi M M3 := fun lo hi q1 q2 q3 => ((fr lo hi q1).tr (sC2.fr f1.1 (by omega))).tr (sC2.fr f2.1 (by omega))
  have h240 : M3.2.1 240 = M.2.1 240 := (f2.1.2.2 240 (by omega)).trans ((f1.2 240 (by decide)).trans ((fr 240 240 (by omega)) 240 (by omega) (by omega)).2.1)
  have h234 : M3.2.1 234 = M.2.1 234 := (f2.1.2.2 234 (by omega)).trans ((f1.2 234 (by decide)).trans ((fr 234 234 (by omega)) 234 (by omega) (by omega)).2.1)
  have g3 : sC2 1 8 (xa (xa M 2 (upd (M.2.1 2) k 3)) 3 (upd (M.2.1 3) k (nI d))) M3 := (sC2.fr f1.1 (by omega)).tr (sC2.fr f2.1 (by omega))
  refine RepC_0.mpr ⟨(CG_plate a).sm g3, ⟨s1.sm (sC2.fr f2.1 (by omega)), by rw [h240]; exact b.2.1, by rw [h234]; exact b.2.2⟩, ⟨f2.cs hW s1, fun n hn => ?_⟩, dd.sm (fr2 _ _ (by omega) (by omega) (by omega)), e.sm (fr2 _ _ (by omega) (by omega) (by omega)), f.sm (fr2 _ _ (by omega) (by omega) (by omega)), g.sm (fr2 _ _ (by omega) (by omega) (by omega)), i.sm (fr2 _ _ (by omega) (by omega) (by omega)), j.sm (fr2 _ _ (by omega) (by omega) (by omega))⟩
  rw [show M3.2.1 70 n = M2.2.1 240 n from f2.2.1 9 (by omega) (by omega) n hn, f1.2 240 (by decide), ((fr 240 240 (by omega)) 240 (by omega) (by omega)).2.1]
  exact b.2.1 n hn
theorem CS_put {G : xG} {S : xS} {M : xM} {r q k : Nat} (h : CS G S M r) (hb : M.2.1 (r + 3) (gT G) = xo none) (hB : sB S (gT G) = none) : CS (uThing G q) (sPut G S q k) (xa (xa M (r + 1) (upd (M.2.1 (r + 1)) (gT G) (nI k))) (r + 2) (upd ((xa M (r + 1) (upd (M.2.1 (r + 1)) (gT G) (nI k))).2.1 (r + 2)) (gT G) (nI (mlife q)))) r := by
  have h1 := csuL (csuC h (gT G) (nI k)) (gT G) (mlife q)
  refine ⟨fun n hn => ?_, fun n hn => ?_, fun n hn => ?_, h1.2.2.2.1, h1.2.2.2.2.1, h1.2.2.2.2.2.1, h1.2.2.2.2.2.2.1, h1.2.2.2.2.2.2.2.1, h1.2.2.2.2.2.2.2.2⟩
  · change n < gT G + 1 at hn
    by_cases e : n = gT G
    · rw [e, xa_n (by omega), xa_s, upd_s]
      show nI k = va_up (sC S) (gT G) (nI k) (gT G)
      rw [up_s]
    · exact h1.1 n (by omega)
  · change n < gT G + 1 at hn
    by_cases e : n = gT G
    · rw [e, xa_s, upd_s]
      show nI (mlife q) = nI (va_up (sL S) (gT G) (mlife q) (gT G))
      rw [up_s]
    · exact h1.2.1 n (by omega)
  · change n < gT G + 1 at hn
    by_cases e : n = gT G
    · rw [e, xa_n (by omega), xa_n (by omega), hb]
      show xo none = xo (sB S (gT G))
      rw [hB]
    · exact h1.2.2.1 n (by omega)
theorem RepC_place {G : xG} {S0 : xS} {now late risk : Nat} {A : Nat → Nat} {L : Nat → Bool} {sq : Nat → Nat} {nl : Nat} {rf hr : Int32} {lg : xE2} {w : xw} {tp : Nat → xT} {M : xM} {M1 M3 : xM} {k q : Nat} (hC : RepC (G, S0, now, late, risk, A, L, sq, nl, rf, hr, lg, w, tp) M) (e0 : now = 0) (ht : gT G < 16) (hW : wG (uThing G q)) (hB : ∀ n, sB S0 n = none) (e1 : M1 = (xf (xa M 8 (upd (M.2.1 8) (gT G) (nI q))) 1 5 (nI (gT G + 1)))) (f2 : Cp 9 61 231 (xa (xa M1 232 (upd (M1.2.1 232) (gT G) (nI k))) 233 (upd ((xa M1 232 (upd (M1.2.1 232) (gT G) (nI k))).2.1 233) (gT G) (nI (mlife q)))) M3) : RepC (uThing G q, sPut G S0 q k, now, late, risk, A, L, sq, nl, rf, hr, lg, w, tp) M3 := by
  subst e0
  obtain ⟨a, b, c, d, e, f, g, i, j⟩ := RepC_0.mp hC
  have fr : ∀ lo hi, 8 < lo ∨ hi < 1 → sC2 lo hi M M1 := fun lo hi q => by rw [e1]; exact (sC2.xa (by omega)).tr (sC2.xf (by omega))
  have fr1 : ∀ lo hi, 233 < lo ∨ hi < 232 → sC2 lo hi M1 (xa (xa M1 232 (upd (M1.2.1 232) (gT G) (nI k))) 233 (upd ((xa M1 232 (upd (M1.2.1 232) (gT G) (nI k))).2.1 233) (gT G) (nI (mlife q)))) := fun lo hi q => (sC2.xa (by omega)).tr (sC2.xa (by omega))
  have fr2 : ∀ lo hi, (8 < lo ∨ hi < 1) → (240 < lo ∨ hi < 232) → (70 < lo ∨ hi < 62) → sC2 lo hi M M3 := fun lo hi q1 q2 q3 => ((fr lo hi q1).tr (fr1 lo hi (by omega))).tr (sC2.fr f2.1 (by omega))
  have b1 : KF G S0 M1 := b.sm (fr _ _ (by omega))
  have s1 : CS (uThing G q) (sPut G S0 q k) (xa (xa M1 232 (upd (M1.2.1 232) (gT G) (nI k))) 233 (upd ((xa M1 232 (upd (M1.2.1 232) (gT G) (nI k))).2.1 233) (gT G) (nI (mlife q)))) 231 := CS_put b1.1 (b1.2.2 _ ht) (hB _)
  have h240 : M3.2.1 240 = M.2.1 240 := (f2.1.2.2 240 (by omega)).trans (((fr1 240 240 (by omega)) 240 (by omega) (by omega)).2.1.trans ((fr 240 240 (by omega)) 240 (by omega) (by omega)).2.1)
  have h234 : M3.2.1 234 = M.2.1 234 := (f2.1.2.2 234 (by omega)).trans (((fr1 234 234 (by omega)) 234 (by omega) (by omega)).2.1.trans ((fr 234 234 (by omega)) 234 (by omega) (by omega)).2.1)
  have g1 : CG (uThing G q) M1 := by rw [e1]; exact CG_thing a
  refine RepC_0.mpr ⟨g1.sm ((fr1 _ _ (by omega)).tr (sC2.fr f2.1 (by omega))), ⟨s1.sm (sC2.fr f2.1 (by omega)), by rw [h240]; exact b.2.1, by rw [h234]; exact b.2.2⟩, ⟨f2.cs hW s1, fun n hn => ?_⟩, d.sm (fr2 _ _ (by omega) (by omega) (by omega)), e.sm (fr2 _ _ (by omega) (by omega) (by omega)), f.sm (fr2 _ _ (by omega) (by omega) (by omega)), g.sm (fr2 _ _ (by omega) (by omega) (by omega)), i.sm (fr2 _ _ (by omega) (by omega) (by omega)), j.sm (fr2 _ _ (by omega) (by omega) (by omega))⟩
  rw [show M3.2.1 70 n = (xa (xa M1 232 (upd (M1.2.1 232) (gT G) (nI k))) 233 (upd ((xa M1 232 (upd (M1.2.1 232) (gT G) (nI k))).2.1 233) (gT G) (nI (mlife q)))).2.1 240 n from f2.2.1 9 (by omega) (by omega) n hn, ((fr1 240 240 (by omega)) 240 (by omega) (by omega)).2.1]
  exact b1.2.1 n hn
theorem RepC_risk {G : xG} {S0 : xS} {now late risk : Nat} {A : Nat → Nat} {L : Nat → Bool} {sq : Nat → Nat} {nl : Nat} {rf hr : Int32} {lg : xE2} {w : xw} {tp : Nat → xT} {M : xM} {v : Nat} (hC : RepC (G, S0, now, late, risk, A, L, sq, nl, rf, hr, lg, w, tp) M) : RepC (G, S0, now, late, v, A, L, sq, nl, rf, hr, lg, w, tp) (xf M 0 11 (nI v)) := by
  obtain ⟨a, b, c, d, e, f, g, i, j⟩ := hC
  exact RepC_mk (a.sm (sC2.xf (by omega))) (b.sm (sC2.xf (by omega))) (c.sm (sC2.xf (by omega))) (d.sm (sC2.xf (by omega))) (e.sm (sC2.xf (by omega))) (f.sm (sC2.xf (by omega))) (g.sm (sC2.xf (by omega))) (i.sm (sC2.xf (by omega))) ⟨j.1, j.2.1, rfl, j.2.2.2.1, j.2.2.2.2.1, j.2.2.2.2.2⟩
theorem RepC_late {G : xG} {S0 : xS} {now late risk : Nat} {A : Nat → Nat} {L : Nat → Bool} {sq : Nat → Nat} {nl : Nat} {rf hr : Int32} {lg : xE2} {w : xw} {tp : Nat → xT} {M : xM} {v : Nat} (hC : RepC (G, S0, now, late, risk, A, L, sq, nl, rf, hr, lg, w, tp) M) (e0 : now = 0) : RepC (G, S0, now, v, risk, A, L, sq, nl, rf, hr, lg, w, tp) (xf M 0 10 (nI v)) := by
  subst e0
  obtain ⟨a, b, c, d, e, f, g, i, j⟩ := RepC_0.mp hC
  exact RepC_0.mpr ⟨a.sm (sC2.xf (by omega)), b.sm (sC2.xf (by omega)), c, d.sm (sC2.xf (by omega)), e.sm (sC2.xf (by omega)), f.sm (sC2.xf (by omega)), g.sm (sC2.xf (by omega)), i.sm (sC2.xf (by omega)), ⟨j.1, rfl, j.2.2.1, j.2.2.2.1, j.2.2.2.2.1, j.2.2.2.2.2⟩⟩
theorem RepM_risk {G : xG} {S0 : xS} {now late risk : Nat} {A : Nat → Nat} {L : Nat → Bool} {sq : Nat → Nat} {nl : Nat} {rf hr : Int32} {lg : xE2} {w : xw} {tp : Nat → xT} {M : xM} {v : Nat} (hX : wX (G, S0, now, late, risk, A, L, sq, nl, rf, hr, lg, w, tp)) (hC : RepM (G, S0, now, late, risk, A, L, sq, nl, rf, hr, lg, w, tp) M) : RepM (G, S0, now, late, v, A, L, sq, nl, rf, hr, lg, w, tp) (xf M 0 12 (nI v)) := by
  obtain ⟨a, b, c, d, e, f, g, i, j, k0⟩ := hC
  exact RepM_mk a b c d e f g i j ⟨k0.1, k0.2.1, rfl, k0.2.2.2.1, k0.2.2.2.2.1, k0.2.2.2.2.2⟩
theorem RepM_late {G : xG} {S0 : xS} {now late risk : Nat} {A : Nat → Nat} {L : Nat → Bool} {sq : Nat → Nat} {nl : Nat} {rf hr : Int32} {lg : xE2} {w : xw} {tp : Nat → xT} {M : xM} {v : Nat} (hC : RepM (G, S0, now, late, risk, A, L, sq, nl, rf, hr, lg, w, tp) M) (e0 : now = 0) : RepM (G, S0, now, v, risk, A, L, sq, nl, rf, hr, lg, w, tp) (xf M 0 11 (nI v)) := by
  subst e0
  obtain ⟨a, b, c, d, e, f, g, i, j, k0⟩ := RepM_0.mp hC
  exact RepM_0.mpr ⟨a, b, c, d, e, f, g, i, j, ⟨k0.1, rfl, k0.2.2.1, k0.2.2.2.1, k0.2.2.2.2.1, k0.2.2.2.2.2⟩⟩
theorem RepM_wall {G : xG} {S0 : xS} {now late risk : Nat} {A : Nat → Nat} {L : Nat → Bool} {sq : Nat → Nat} {nl : Nat} {rf hr : Int32} {lg : xE2} {w : xw} {tp : Nat → xT} {M : xM} {k v : Nat} (hC : RepM (G, S0, now, late, risk, A, L, sq, nl, rf, hr, lg, w, tp) M) (e0 : now = 0) (hv : v ≤ 1) : RepM (uMap G k v, S0, now, late, risk, A, L, sq, nl, rf, hr, lg, w, tp) (xa M 1 (upd (M.2.1 1) k (nI v))) := by
  subst e0
  obtain ⟨a, b, c, d, e, f, g, i, j, k0⟩ := RepM_0.mp hC
  exact RepM_0.mpr ⟨MG_map a hv, b, c, d, e, f, g, i, j, k0⟩
theorem RM_door {G : xG} {S : xS} {M : xM} {s k v : Nat} (h : RM G S M s) (h0 : M.2.1 5 (s + 96 + gD G) = sO S (gD G)) : RM (uDoor G k v) S M s := ⟨h.1, h.2.1, h.2.2.1, h.2.2.2.1, h.2.2.2.2.1, h.2.2.2.2.2.1, h.2.2.2.2.2.2.1, h.2.2.2.2.2.2.2.1, fun n hn => by
  change n < gD G + 1 at hn
  by_cases e : n = gD G
  · rw [e]; exact h0
  · exact h.2.2.2.2.2.2.2.2.1 n (by omega), h.2.2.2.2.2.2.2.2.2⟩
theorem RepM_door {G : xG} {S0 : xS} {now late risk : Nat} {A : Nat → Nat} {L : Nat → Bool} {sq : Nat → Nat} {nl : Nat} {rf hr : Int32} {lg : xE2} {w : xw} {tp : Nat → xT} {M : xM} {k v : Nat} (hC : RepM (G, S0, now, late, risk, A, L, sq, nl, rf, hr, lg, w, tp) M) (e0 : now = 0) (hd : gD G < 8) (hO : ∀ n, sO S0 n = 0) : RepM (uDoor G k v, S0, now, late, risk, A, L, sq, nl, rf, hr, lg, w, tp) (xf (xa (xa (xa M 1 (upd (M.2.1 1) k 2)) 2 (upd (M.2.1 2) k (nI (gD G)))) 3 (upd (M.2.1 3) (gD G) (nI v))) 0 6 (nI (gD G + 1))) := by
  subst e0
  obtain ⟨a, b, c, d, e, f, g, i, j, k0⟩ := RepM_0.mp hC
  exact RepM_0.mpr ⟨MG_door a, ⟨RM_door b.1 (by rw [Nat.zero_add]; exact (b.2 _ hd).trans (hO _).symm), b.2⟩, c, d, e, f, g, i, j, k0⟩
theorem RepM_plate {G : xG} {S0 : xS} {now late risk : Nat} {A : Nat → Nat} {L : Nat → Bool} {sq : Nat → Nat} {nl : Nat} {rf hr : Int32} {lg : xE2} {w : xw} {tp : Nat → xT} {M : xM} {M2 : xM} {k d : Nat} (hC : RepM (G, S0, now, late, risk, A, L, sq, nl, rf, hr, lg, w, tp) M) (e0 : now = 0) (f1 : Fm8 0 (xa (xa M 1 (upd (M.2.1 1) k 3)) 2 (upd (M.2.1 2) k (nI d))) M2) (s1 : RM (uPlate G k d) (mplates (uPlate G k d) S0) M2 0) : RepM (uPlate G k d, mplates (uPlate G k d) S0, now, late, risk, A, L, sq, nl, rf, hr, lg, w, tp) M2 := by
  subst e0
  obtain ⟨a, b, c, dd, e, f, g, i, j, k0⟩ := RepM_0.mp hC
  have o1 : ∀ a, ¬ a = 1 → ¬ a = 2 → ¬ a = 5 → M2.2.1 a = M.2.1 a := fun a q1 q2 q5 => by rw [f1.1.2.2.1 a q5, xa_n q2, xa_n q1]
  have o2 : M2.1 = M.1 := f1.1.1
  have o3 : M2.2.2 = M.2.2 := f1.1.2.1
  refine RepM_0.mpr ⟨(MG_plate a).sm (fun k _ => by rw [f1.1.1]) (fun a ha => f1.1.2.2.1 a (by omega)), ⟨s1, fun n hn => ?_⟩, c.sm (o1 6 (by decide) (by decide) (by decide)), dd.sm (o1 7 (by decide) (by decide) (by decide)), e.sm (o1 8 (by decide) (by decide) (by decide)), f.sm (o1 10 (by decide) (by decide) (by decide)) (fun k _ _ => by rw [o2]), g.sm (o1 9 (by decide) (by decide) (by decide)), i.sm (fun a q1 q2 => o1 a (by omega) (by omega) (by omega)) (by rw [o3]), j.sm (fun a q1 q2 => o1 a (by omega) (by omega) (by omega)) (by rw [o3]), k0.sm (fun k _ => by rw [o2])⟩
  rw [f1.2 (96 + n) (by omega), xa_n (by decide), xa_n (by decide)]
  exact b.2 n hn
