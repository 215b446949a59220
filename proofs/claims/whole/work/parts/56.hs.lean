theorem RepC_mk {G : xG} {S0 : xS} {now late risk : Nat} {A : Nat → Nat} {L : Nat → Bool} {sq : Nat → Nat} {nl : Nat} {rf hr : Int32} {lg : xE2} {w : xw} {tp : Nat → xT} {M : xM} (a : CG G M) (b : KF G S0 M) (c : KR G (Zf G A S0) now M) (d : CLg A (Hx G A S0 now) L M) (e : KE lg M) (f : KS sq M) (g : KW w (fun p b => mfair (Hx G A S0 now) L p b (now - late)) M) (i : KT tp M) (j : KM now late risk nl rf hr M) : RepC (G, S0, now, late, risk, A, L, sq, nl, rf, hr, lg, w, tp) M := ⟨a, b, c, d, e, f, g, i, j⟩
theorem RepM_mk {G : xG} {S0 : xS} {now late risk : Nat} {A : Nat → Nat} {L : Nat → Bool} {sq : Nat → Nat} {nl : Nat} {rf hr : Int32} {lg : xE2} {w : xw} {tp : Nat → xT} {M : xM} (a : MG G M) (b : NS G (Zf G A S0) now M) (c : MA A M) (d : NL L M) (e : MH (Hx G A S0 now) M) (f : NE lg M) (g : NQ sq M) (i : MWt w M) (j : NT tp M) (k : NM now late risk nl rf hr M) : RepM (G, S0, now, late, risk, A, L, sq, nl, rf, hr, lg, w, tp) M := ⟨a, b, c, d, e, f, g, i, j, k⟩
theorem Hx_0 {G : xG} {A : Nat → Nat} {S : xS} : Hx G A S 0 = fun _ => 0 := by
  funext i
  unfold Hx
  rw [if_neg (by omega)]
theorem mfair_0 {H : Nat → Nat} {L : Nat → Bool} {late : Nat} : (fun (p : Nat) (b : Bool) => mfair H L p b (0 - late)) = fun _ _ => 0 := by
  funext p b
  rw [Nat.zero_sub]
  rfl
theorem RepC_0 {G : xG} {S0 : xS} {late risk : Nat} {A : Nat → Nat} {L : Nat → Bool} {sq : Nat → Nat} {nl : Nat} {rf hr : Int32} {lg : xE2} {w : xw} {tp : Nat → xT} {M : xM} : RepC (G, S0, 0, late, risk, A, L, sq, nl, rf, hr, lg, w, tp) M ↔ (CG G M ∧ KF G S0 M ∧ (CS G S0 M 61 ∧ ∀ n, n < 8 → M.2.1 70 n = 0) ∧ CLg A (fun _ => 0) L M ∧ KE lg M ∧ KS sq M ∧ KW w (fun _ _ => 0) M ∧ KT tp M ∧ KM 0 late risk nl rf hr M) := by
  unfold RepC
  dsimp only
  rw [mfair_0, Hx_0]
  constructor
  · rintro ⟨a, b, c, d, e, f, g, i, j⟩
    exact ⟨a, b, ⟨c.1 0 (by omega) (by omega), c.2 rfl⟩, d, e, f, g, i, j⟩
  · rintro ⟨a, b, c, d, e, f, g, i, j⟩
    refine ⟨a, b, ⟨fun t h1 h2 => ?_, fun _ => c.2⟩, d, e, f, g, i, j⟩
    have : t = 0 := by omega
    subst this
    exact c.1
theorem RepM_0 {G : xG} {S0 : xS} {late risk : Nat} {A : Nat → Nat} {L : Nat → Bool} {sq : Nat → Nat} {nl : Nat} {rf hr : Int32} {lg : xE2} {w : xw} {tp : Nat → xT} {M : xM} : RepM (G, S0, 0, late, risk, A, L, sq, nl, rf, hr, lg, w, tp) M ↔ (MG G M ∧ (RM G S0 M 0 ∧ ∀ n, n < 8 → M.2.1 5 (96 + n) = 0) ∧ MA A M ∧ NL L M ∧ MH (fun _ => 0) M ∧ NE lg M ∧ NQ sq M ∧ MWt w M ∧ NT tp M ∧ NM 0 late risk nl rf hr M) := by
  unfold RepM
  dsimp only
  rw [Hx_0]
  constructor
  · rintro ⟨a, b, c, d, e, f, g, i, j, k⟩
    exact ⟨a, ⟨b.1 0 (by omega), b.2⟩, c, d, e, f, g, i, j, k⟩
  · rintro ⟨a, b, c, d, e, f, g, i, j, k⟩
    refine ⟨a, ⟨fun t h1 => ?_, b.2⟩, c, d, e, f, g, i, j, k⟩
    have : t = 0 := by omega
    subst this
    exact b.1
/-! changes of the ground -/
def uMap (G : xG) (k v : Nat) : xG := (G.1, G.2.1, G.2.2.1, G.2.2.2.1, G.2.2.2.2.1, va_up (gmap G) k v, glink G, gword G, gkind G)
def uDoor (G : xG) (k v : Nat) : xG := (G.1, G.2.1, G.2.2.1, G.2.2.2.1, gD G + 1, va_up (gmap G) k 2, va_up (glink G) k (gD G), va_up (gword G) (gD G) v, gkind G)
def uPlate (G : xG) (k d : Nat) : xG := (G.1, G.2.1, G.2.2.1, G.2.2.2.1, G.2.2.2.2.1, va_up (gmap G) k 3, va_up (glink G) k d, gword G, gkind G)
def uThing (G : xG) (q : Nat) : xG := (G.1, G.2.1, G.2.2.1, gT G + 1, G.2.2.2.2.1, gmap G, glink G, gword G, va_up (gkind G) (gT G) q)
theorem wG_map {G : xG} {k v : Nat} (h : wG G) (hv : v ≤ 1) : wG (uMap G k v) := by
  obtain ⟨b1, b2, b3, b4, b5, b6, b7, b8, b9, wmap, wlink, wk0, wk1, b10, b11, wword⟩ := h
  refine ⟨b1, b2, b3, b4, b5, b6, b7, b8, b9, fun j hj => ?_, fun j hj hd => ?_, wk0, wk1, b10, b11, wword⟩
  · show va_up (gmap G) k v j ≤ 3
    by_cases e : j = k
    · rw [e, up_s]; omega
    · rw [up_n e]; exact wmap j hj
  · change va_up (gmap G) k v j = 2 ∨ va_up (gmap G) k v j = 3 at hd
    by_cases e : j = k
    · rw [e, up_s] at hd; omega
    · rw [up_n e] at hd; exact wlink j hj hd
theorem wG_door {G : xG} {k v : Nat} (h : wG G) (hv : v ≤ 15) (hd : gD G < 8) : wG (uDoor G k v) := by
  obtain ⟨b1, b2, b3, b4, b5, b6, b7, b8, b9, wmap, wlink, wk0, wk1, b10, b11, wword⟩ := h
  refine ⟨b1, b2, b3, b4, b5, b6, b7, b8, ?_, fun j hj => ?_, fun j hj hd => ?_, wk0, wk1, b10, b11, fun d hq => ?_⟩
  · show gD G + 1 ≤ 8; omega
  · show va_up (gmap G) k 2 j ≤ 3
    by_cases e : j = k
    · rw [e, up_s]; omega
    · rw [up_n e]; exact wmap j hj
  · change va_up (gmap G) k 2 j = 2 ∨ va_up (gmap G) k 2 j = 3 at hd
    show va_up (glink G) k (gD G) j < gD G + 1
    by_cases e : j = k
    · rw [e, up_s]; omega
    · rw [up_n e] at hd ⊢
      have := wlink j hj hd
      omega
  · change d < gD G + 1 at hq
    show va_up (gword G) (gD G) v d ≤ 15
    by_cases e : d = gD G
    · rw [e, up_s]; exact hv
    · rw [up_n e]; exact wword d (by omega)
theorem wG_plate {G : xG} {k d : Nat} (h : wG G) (hd : d < gD G) : wG (uPlate G k d) := by
  obtain ⟨b1, b2, b3, b4, b5, b6, b7, b8, b9, wmap, wlink, wk0, wk1, b10, b11, wword⟩ := h
  refine ⟨b1, b2, b3, b4, b5, b6, b7, b8, b9, fun j hj => ?_, fun j hj hd2 => ?_, wk0, wk1, b10, b11, wword⟩
  · show va_up (gmap G) k 3 j ≤ 3
    by_cases e : j = k
    · rw [e, up_s]; omega
    · rw [up_n e]; exact wmap j hj
  · change va_up (gmap G) k 3 j = 2 ∨ va_up (gmap G) k 3 j = 3 at hd2
    show va_up (glink G) k d j < gD G
    by_cases e : j = k
    · rw [e, up_s]; exact hd
    · rw [up_n e] at hd2 ⊢
      exact wlink j hj hd2
theorem wG_thing {G : xG} {q : Nat} (h : wG G) (h1 : 1 ≤ q) (h7 : q ≤ 7) (ht : gT G < 16) : wG (uThing G q) := by
  obtain ⟨b1, b2, b3, b4, b5, b6, b7, b8, b9, wmap, wlink, wk0, wk1, b10, b11, wword⟩ := h
  refine ⟨b1, b2, b3, b4, b5, b6, ?_, ?_, b9, wmap, wlink, fun n hn => ?_, fun n h2 h3 => ?_, b10, b11, wword⟩
  · show gP G ≤ gT G + 1; omega
  · show gT G + 1 ≤ 16; omega
  · change n < gP G at hn
    show va_up (gkind G) (gT G) q n = 0
    rw [up_n (by omega)]; exact wk0 n hn
  · change gP G ≤ n at h2
    change n < gT G + 1 at h3
    show 1 ≤ va_up (gkind G) (gT G) q n ∧ va_up (gkind G) (gT G) q n ≤ 7
    by_cases e : n = gT G
    · rw [e, up_s]; exact ⟨h1, h7⟩
    · rw [up_n e]; exact wk1 n h2 (by omega)
/-- the first life of a kind -/
def mlife (q : Nat) : Nat := if q = 0 then 5 else if q = 1 then 2 else if q = 2 then 3 else 0
def sPut (G : xG) (S : xS) (q k : Nat) : xS := uL (uC S (gT G) (nI k)) (gT G) (mlife q)
theorem wS_thing {G : xG} {S : xS} {q k : Nat} (hW : wG G) (h : wS G S) (hk : k < gN G) : wS (uThing G q) (sPut G S q k) := by
  have b7 : gP G ≤ gT G := hW.2.2.2.2.2.2.1
  refine ⟨fun n hn hq => ?_, fun n hn => ?_, fun n hn hq => ?_, h.2.2.2.1, fun p hp j hj => ?_⟩
  · change n < gT G + 1 at hn
    change va_up (gkind G) (gT G) q n ≤ 2 at hq
    show ∃ k2, k2 < gN G ∧ va_up (sC S) (gT G) (nI k) n = nI k2
    by_cases e : n = gT G
    · rw [e, up_s]; exact ⟨k, hk, rfl⟩
    · rw [up_n e] at hq ⊢
      exact h.1 n (by omega) hq
  · change n < gT G + 1 at hn
    show va_up (sL S) (gT G) (mlife q) n ≤ 5
    by_cases e : n = gT G
    · rw [e, up_s]; unfold mlife; split <;> (try split) <;> (try split) <;> omega
    · rw [up_n e]; exact h.2.1 n (by omega)
  · change n < gT G + 1 at hn
    change 0 < va_up (sL S) (gT G) (mlife q) n at hq
    show va_up (gkind G) (gT G) q n ≤ 2
    by_cases e : n = gT G
    · rw [e, up_s] at hq ⊢
      unfold mlife at hq
      split at hq
      · omega
      · split at hq
        · omega
        · split at hq
          · omega
          · omega
    · rw [up_n e] at hq ⊢
      exact h.2.2.1 n (by omega) hq
  · obtain ⟨a1, a2⟩ := h.2.2.2.2 p hp j hj
    refine ⟨show j < gT G + 1 by omega, ?_⟩
    show 5 ≤ va_up (gkind G) (gT G) q j
    rw [up_n (by omega)]; exact a2
theorem wS_gr {G G2 : xG} {S : xS} (h : wS G S) (e1 : gT G2 = gT G) (e2 : gP G2 = gP G) (e3 : gkind G2 = gkind G) (e4 : gN G2 = gN G) : wS G2 S := by
  unfold wS at h ⊢
  rw [e1, e2, e3, e4]
  exact h
/-! in the class's cells -/
theorem CG_map {G : xG} {M : xM} {k v : Nat} (hG : CG G M) (hv : v ≤ 1) : CG (uMap G k v) (xa M 2 (upd (M.2.1 2) k (nI v))) := by
  obtain ⟨q0, q1, q2, q3, q4, q5, q6, q7, q8, q9, q10, q11, q12⟩ := hG
  refine ⟨q0, q1, q2, q3, q4, q5, fun j hj => ?_, fun j hj hd => ?_, q8, q9, q10, q11, q12⟩
  · rw [xa_s]
    show upd (M.2.1 2) k (nI v) j = nI (va_up (gmap G) k v j)
    by_cases e : j = k
    · rw [e, upd_s, up_s]
    · rw [upd_n e, up_n e]; exact q6 j hj
  · change va_up (gmap G) k v j = 2 ∨ va_up (gmap G) k v j = 3 at hd
    by_cases e : j = k
    · rw [e, up_s] at hd; omega
    · rw [up_n e] at hd; exact q7 j hj hd
theorem CG_door {G : xG} {M : xM} {k v : Nat} (hG : CG G M) : CG (uDoor G k v) (xf (xa (xa (xa M 2 (upd (M.2.1 2) k 2)) 3 (upd (M.2.1 3) k (nI (gD G)))) 7 (upd (M.2.1 7) (gD G) (nI v))) 1 4 (nI (gD G + 1))) := by
  obtain ⟨q0, q1, q2, q3, q4, q5, q6, q7, q8, q9, q10, q11, q12⟩ := hG
  refine ⟨q0, q1, q2, q3, rfl, q5, fun j hj => ?_, fun j hj hd => ?_, q8, q9, q10, fun d hd => ?_, q12⟩
  · show upd (M.2.1 2) k 2 j = nI (va_up (gmap G) k 2 j)
    by_cases e : j = k
    · rw [e, upd_s, up_s]; rfl
    · rw [upd_n e, up_n e]; exact q6 j hj
  · change va_up (gmap G) k 2 j = 2 ∨ va_up (gmap G) k 2 j = 3 at hd
    show upd (M.2.1 3) k (nI (gD G)) j = nI (va_up (glink G) k (gD G) j)
    by_cases e : j = k
    · rw [e, upd_s, up_s]
    · rw [upd_n e, up_n e]; rw [up_n e] at hd; exact q7 j hj hd
  · change d < gD G + 1 at hd
    show upd (M.2.1 7) (gD G) (nI v) d = nI (va_up (gword G) (gD G) v d)
    by_cases e : d = gD G
    · rw [e, upd_s, up_s]
    · rw [upd_n e, up_n e]; exact q11 d (by omega)
theorem CG_plate {G : xG} {M : xM} {k d : Nat} (hG : CG G M) : CG (uPlate G k d) (xa (xa M 2 (upd (M.2.1 2) k 3)) 3 (upd (M.2.1 3) k (nI d))) := by
  obtain ⟨q0, q1, q2, q3, q4, q5, q6, q7, q8, q9, q10, q11, q12⟩ := hG
  refine ⟨q0, q1, q2, q3, q4, q5, fun j hj => ?_, fun j hj hd => ?_, q8, q9, q10, q11, q12⟩
  · show upd (M.2.1 2) k 3 j = nI (va_up (gmap G) k 3 j)
    by_cases e : j = k
    · rw [e, upd_s, up_s]; rfl
    · rw [upd_n e, up_n e]; exact q6 j hj
  · change va_up (gmap G) k 3 j = 2 ∨ va_up (gmap G) k 3 j = 3 at hd
    show upd (M.2.1 3) k (nI d) j = nI (va_up (glink G) k d j)
    by_cases e : j = k
    · rw [e, upd_s, up_s]
    · rw [upd_n e, up_n e]; rw [up_n e] at hd; exact q7 j hj hd
theorem CG_thing {G : xG} {M : xM} {q : Nat} (hG : CG G M) : CG (uThing G q) (xf (xa M 8 (upd (M.2.1 8) (gT G) (nI q))) 1 5 (nI (gT G + 1))) := by
  obtain ⟨q0, q1, q2, q3, q4, q5, q6, q7, q8, q9, q10, q11, q12⟩ := hG
  refine ⟨q0, q1, q2, q3, q4, rfl, q6, q7, q8, q9, q10, q11, fun n hn => ?_⟩
  change n < gT G + 1 at hn
  show upd (M.2.1 8) (gT G) (nI q) n = nI (va_up (gkind G) (gT G) q n)
  by_cases e : n = gT G
  · rw [e, upd_s, up_s]
  · rw [upd_n e, up_n e]; exact q12 n (by omega)
/-! in the model's cells -/
theorem MG_map {G : xG} {M : xM} {k v : Nat} (hG : MG G M) (hv : v ≤ 1) : MG (uMap G k v) (xa M 1 (upd (M.2.1 1) k (nI v))) := by
  obtain ⟨q0, q1, q2, q3, q4, q5, q6, q7, q8⟩ := hG
  refine ⟨q0, q1, q2, q3, q4, fun j hj => ?_, fun j hj hd => ?_, q7, q8⟩
  · show upd (M.2.1 1) k (nI v) j = nI (va_up (gmap G) k v j)
    by_cases e : j = k
    · rw [e, upd_s, up_s]
    · rw [upd_n e, up_n e]; exact q5 j hj
  · change va_up (gmap G) k v j = 2 ∨ va_up (gmap G) k v j = 3 at hd
    by_cases e : j = k
    · rw [e, up_s] at hd; omega
    · rw [up_n e] at hd; exact q6 j hj hd
theorem MG_door {G : xG} {M : xM} {k v : Nat} (hG : MG G M) : MG (uDoor G k v) (xf (xa (xa (xa M 1 (upd (M.2.1 1) k 2)) 2 (upd (M.2.1 2) k (nI (gD G)))) 3 (upd (M.2.1 3) (gD G) (nI v))) 0 6 (nI (gD G + 1))) := by
  obtain ⟨q0, q1, q2, q3, q4, q5, q6, q7, q8⟩ := hG
  refine ⟨q0, q1, q2, rfl, q4, fun j hj => ?_, fun j hj hd => ?_, fun d hd => ?_, q8⟩
  · show upd (M.2.1 1) k 2 j = nI (va_up (gmap G) k 2 j)
    by_cases e : j = k
    · rw [e, upd_s, up_s]; rfl
    · rw [upd_n e, up_n e]; exact q5 j hj
  · change va_up (gmap G) k 2 j = 2 ∨ va_up (gmap G) k 2 j = 3 at hd
    show upd (M.2.1 2) k (nI (gD G)) j = nI (va_up (glink G) k (gD G) j)
    by_cases e : j = k
    · rw [e, upd_s, up_s]
    · rw [upd_n e, up_n e]; rw [up_n e] at hd; exact q6 j hj hd
  · change d < gD G + 1 at hd
    show upd (M.2.1 3) (gD G) (nI v) d = nI (va_up (gword G) (gD G) v d)
    by_cases e : d = gD G
    · rw [e, upd_s, up_s]
    · rw [upd_n e, up_n e]; exact q7 d (by omega)
theorem MG_plate {G : xG} {M : xM} {k d : Nat} (hG : MG G M) : MG (uPlate G k d) (xa (xa M 1 (upd (M.2.1 1) k 3)) 2 (upd (M.2.1 2) k (nI d))) := by
  obtain ⟨q0, q1, q2, q3, q4, q5, q6, q7, q8⟩ := hG
  refine ⟨q0, q1, q2, q3, q4, fun j hj => ?_, fun j hj hd => ?_, q7, q8⟩
  · show upd (M.2.1 1) k 3 j = nI (va_up (gmap G) k 3 j)
    by_cases e : j = k
    · rw [e, upd_s, up_s]; rfl
    · rw [upd_n e, up_n e]; exact q5 j hj
  · change va_up (gmap G) k 3 j = 2 ∨ va_up (gmap G) k 3 j = 3 at hd
    show upd (M.2.1 2) k (nI d) j = nI (va_up (glink G) k d j)
    by_cases e : j = k
    · rw [e, upd_s, up_s]
    · rw [upd_n e, up_n e]; rw [up_n e] at hd; exact q6 j hj hd
