def xln (j : Nat) : Nat := if j ≤ 3 then 16 else if j ≤ 8 then 4 else 8
/-- the first i rows of a state are copied -/
def Cp (i r q : Nat) (M M2 : xM) : Prop := Fr r M M2 ∧ (∀ j, 1 ≤ j → j ≤ i → ∀ k, k < xln j → M2.2.1 (r + j) k = M.2.1 (q + j) k) ∧ ∀ j, i < j → M2.2.1 (r + j) = M.2.1 (r + j)
theorem Cp.z {r q : Nat} {M : xM} : Cp 0 r q M M := ⟨Fr.rf, fun j h1 h2 => by omega, fun _ _ => rfl⟩
theorem Cp.step {i r q : Nat} {M N : xM} (h : Cp i r q M N) (hq : q = r ∨ r + 9 < q ∨ q + 9 < r) (hi : i < 9) {n : Nat} (hn : n = xln (i + 1)) : Cp (i + 1) r q M (xa N (r + (i + 1)) (va_cpy (N.2.1 (q + (i + 1))) (N.2.1 (r + (i + 1))) 0 0 n)) := by
  refine ⟨h.1.tr (Fr.xa (by omega) (by omega)), fun j h1 h2 k hk => ?_, fun j hj => ?_⟩
  · by_cases e : j = i + 1
    · subst e
      rw [xa_s]
      unfold va_cpy
      rw [if_pos ⟨Nat.zero_le _, by omega⟩, Nat.zero_add, Nat.sub_zero]
      rcases hq with hq | hq
      · subst hq
        rw [h.2.2 (i + 1) (by omega)]
      · rw [h.1.2.2 (q + (i + 1)) (by omega)]
    · rw [xa_n (by omega)]
      exact h.2.1 j h1 (by omega) k hk
  · rw [xa_n (by omega)]
    exact h.2.2 j (by omega)
theorem Cp.cs {G : xG} {S : xS} {r q : Nat} {M M2 : xM} (hW : wG G) (h : Cp 9 r q M M2) (hS : CS G S M q) : CS G S M2 r := by
  obtain ⟨b1, b2, b3, b4, b5, b6, b7, b8, b9, wmap, wlink, wk0, wk1, b10, b11, wword⟩ := id hW
  refine ⟨?_, ?_, ?_, ?_, ?_, ?_, ?_, ?_, ?_⟩
  · exact fun n hn => (h.2.1 1 (by omega) (by omega) n (by show n < 16; omega)).trans (csC hS hn)
  · exact fun n hn => (h.2.1 2 (by omega) (by omega) n (by show n < 16; omega)).trans (csL hS hn)
  · exact fun n hn => (h.2.1 3 (by omega) (by omega) n (by show n < 16; omega)).trans (csB hS hn)
  · exact fun n hn => (h.2.1 4 (by omega) (by omega) n (by show n < 4; omega)).trans (csF hS hn)
  · exact fun n hn => (h.2.1 5 (by omega) (by omega) n (by show n < 4; omega)).trans (csR hS hn)
  · exact fun n hn => (h.2.1 6 (by omega) (by omega) n (by show n < 4; omega)).trans (csH hS hn)
  · exact fun n hn => (h.2.1 7 (by omega) (by omega) n (by show n < 4; omega)).trans (csP hS hn)
  · exact fun n hn => (h.2.1 8 (by omega) (by omega) n (by show n < 4; omega)).trans (csK hS hn)
  · exact fun n hn => (h.2.1 9 (by omega) (by omega) n (by show n < 8; omega)).trans (csO hS hn)
theorem isSt.far {r q : Nat} (h : isSt r) (h2 : isSt q) : q = r ∨ r + 9 < q ∨ q + 9 < r := by
  obtain ⟨i, hi, rfl⟩ := h
  obtain ⟨j, hj, rfl⟩ := h2
  omega
theorem isSt_ring (t : Nat) : isSt (61 + 10 * (t % 16)) := ⟨t % 16, by omega, rfl⟩
theorem isSt_lone : isSt 221 := ⟨16, by omega, rfl⟩
theorem isSt_first : isSt 231 := ⟨17, by omega, rfl⟩
/-- a tick -/
def mtick (G : xG) (A : Nat → Nat) (t : Nat) (S : xS) : xS := mend G (mbeasts G (mbodies G A t S (fun _ => 0)).1)
def mtH (G : xG) (A : Nat → Nat) (t : Nat) (S : xS) (H : Nat → Nat) : Nat → Nat := (mbodies G A t S H).2
theorem mbL_S {G : xG} {A : Nat → Nat} {t : Nat} : ∀ (f i : Nat) (S : xS) (H K : Nat → Nat), (mbL G A t i f (S, H)).1 = (mbL G A t i f (S, K)).1
  | 0, i, S, H, K => rfl
  | f + 1, i, S, H, K => mbL_S f (i + 1) _ _ _
theorem mbodies_S {G : xG} {A : Nat → Nat} {t : Nat} {S : xS} (H : Nat → Nat) : mend G (mbeasts G (mbodies G A t S H).1) = mtick G A t S := by
  unfold mtick mbodies
  rw [mbL_S (gP G) 0 S H (fun _ => 0)]
theorem wS_bL {G : xG} {A : Nat → Nat} {t : Nat} (hW : wG G) : ∀ (f i : Nat) (q : xS × (Nat → Nat)), wS G q.1 → wS G (mbL G A t i f q).1
  | 0, i, q, h => h
  | f + 1, i, q, h => wS_bL hW f (i + 1) _ (wS_act hW h (Nat.mod_lt _ (by have := hW.2.2.2.2.1; omega)))
theorem wS_bodies {G : xG} {A : Nat → Nat} {t : Nat} {S : xS} {H : Nat → Nat} (hW : wG G) (h : wS G S) : wS G (mbodies G A t S H).1 := wS_bL hW _ _ _ h
theorem wS_tick {G : xG} {A : Nat → Nat} {t : Nat} {S : xS} (hW : wG G) (h : wS G S) : wS G (mtick G A t S) := wS_end (wS_beasts hW (wS_bodies hW h))
/-- the hits of the ticks t .. t + f - 1 -/
def mwH (G : xG) (A : Nat → Nat) (Z : Nat → xS) : Nat → Nat → (Nat → Nat) → (Nat → Nat)
  | _, 0, H => H
  | t, f + 1, H => mwH G A Z (t + 1) f (mtH G A t (Z t) H)
/-- states of ticks in the ring -/
def CR (G : xG) (Z : Nat → xS) (M : xM) (lo hi : Nat) : Prop := ∀ t, lo ≤ t → t ≤ hi → CS G (Z t) M (61 + 10 * (t % 16))
/-- changed in hits and in the states lo .. hi alone -/
def FK (lo hi : Nat) (M M2 : xM) : Prop := M2.1 = M.1 ∧ M2.2.2 = M.2.2 ∧ ∀ a, ¬ a = 15 → (a < lo ∨ hi < a) → M2.2.1 a = M.2.1 a
theorem FK.rf {lo hi : Nat} {M : xM} : FK lo hi M M := ⟨rfl, rfl, fun _ _ _ => rfl⟩
theorem FK.tr {lo hi : Nat} {M M1 M2 : xM} (h : FK lo hi M M1) (h2 : FK lo hi M1 M2) : FK lo hi M M2 := ⟨h2.1.trans h.1, h2.2.1.trans h.2.1, fun a ha hb => (h2.2.2 a ha hb).trans (h.2.2 a ha hb)⟩
theorem Fr.fk {r lo hi : Nat} {M M2 : xM} (h : Fr r M M2) (h1 : lo ≤ r + 1) (h2 : r + 9 ≤ hi) : FK lo hi M M2 := ⟨h.1, h.2.1, fun a _ hb => h.2.2 a (by omega)⟩
theorem FL.fk {r lo hi : Nat} {M M2 : xM} (h : FL r M M2) (h1 : lo ≤ r + 1) (h2 : r + 9 ≤ hi) : FK lo hi M M2 := ⟨h.1, h.2.1, fun a ha hb => h.2.2 a ha (by omega)⟩
theorem CS.fl {G : xG} {S : xS} {M M2 : xM} {r q : Nat} (h : CS G S M r) (hr : isSt r) (f : FL q M M2) (hq : r + 9 < q + 1 ∨ q + 9 < r + 1) : CS G S M2 r := by
  have hg := hr.ge
  refine ⟨?_, ?_, ?_, ?_, ?_, ?_, ?_, ?_, ?_⟩
  · exact fun n hn => (congrFun (f.2.2 (r + 1) (by omega) (by omega)) n).trans (csC h hn)
  · exact fun n hn => (congrFun (f.2.2 (r + 2) (by omega) (by omega)) n).trans (csL h hn)
  · exact fun n hn => (congrFun (f.2.2 (r + 3) (by omega) (by omega)) n).trans (csB h hn)
  · exact fun n hn => (congrFun (f.2.2 (r + 4) (by omega) (by omega)) n).trans (csF h hn)
  · exact fun n hn => (congrFun (f.2.2 (r + 5) (by omega) (by omega)) n).trans (csR h hn)
  · exact fun n hn => (congrFun (f.2.2 (r + 6) (by omega) (by omega)) n).trans (csH h hn)
  · exact fun n hn => (congrFun (f.2.2 (r + 7) (by omega) (by omega)) n).trans (csP h hn)
  · exact fun n hn => (congrFun (f.2.2 (r + 8) (by omega) (by omega)) n).trans (csK h hn)
  · exact fun n hn => (congrFun (f.2.2 (r + 9) (by omega) (by omega)) n).trans (csO h hn)
theorem CR.fl {G : xG} {Z : Nat → xS} {M M2 : xM} {lo hi q : Nat} (h : CR G Z M lo hi) (f : FL (61 + 10 * (q % 16)) M M2) (hq : ∀ t, lo ≤ t → t ≤ hi → ¬ t % 16 = q % 16) : CR G Z M2 lo hi := fun t h1 h2 => (h t h1 h2).fl (isSt_ring t) f (by have := hq t h1 h2; omega)
set_option maxHeartbeats 4000000 in
set_option maxRecDepth 100000 in
theorem s_copy {G : xG} {S : xS} {M : xM} {r q : Nat} {Q : Option Value → xM → Prop} (hW : wG G) (hr : isSt r) (hrq : isSt q) (hS : CS G S M q) (h : ∀ M2, Fr r M M2 → CS G S M2 r → Q none M2) : WP shC mX6_copyFrom 0 [some (.ref r), some (.ref q)] [] M Q := by
  have hq := isSt.far hr hrq
  have hC0 : Cp 0 r q M M := Cp.z
  refine xi_aload_n dX6_copyFrom_0 rfl ?_
  refine xi_getR dX6_copyFrom_1 fgX6_9 (so hrq) rfl ?_
  refine xi_iconst (v := 0) dX6_copyFrom_4 rfl ?_
  refine xi_aload_n dX6_copyFrom_5 rfl ?_
  refine xi_getR dX6_copyFrom_6 fgX6_9 (so hr) rfl ?_
  refine xi_iconst (v := 0) dX6_copyFrom_9 rfl ?_
  refine xi_bipush (v := 16) dX6_copyFrom_10 (by decide) ?_
  refine xi_copyi dX6_copyFrom_12 mlX6_66 xnat (sa1 hrq) (sa1 hr) (by decide) (by decide) (by decide) (by decide) (by decide) (by decide) (Nat.le_of_ble_eq_true rfl) ?_
  generalize eK1 : (xa M (r + 1) (va_cpy (M.2.1 (q + 1)) (M.2.1 (r + 1)) (0 : Int32).toNatClampNeg (0 : Int32).toNatClampNeg (16 : Int32).toNatClampNeg)) = K1
  have hC1 : Cp 1 r q M K1 := by rw [← eK1]; exact hC0.step hq (by omega) (by rfl)
  refine xi_aload_n dX6_copyFrom_15 rfl ?_
  refine xi_getR dX6_copyFrom_16 fgX6_15 (so hrq) rfl ?_
  refine xi_iconst (v := 0) dX6_copyFrom_19 rfl ?_
  refine xat 20 rfl ?_
  refine xi_aload_n dX6_copyFrom_20 rfl ?_
  refine xi_getR dX6_copyFrom_21 fgX6_15 (so hr) rfl ?_
  refine xi_iconst (v := 0) dX6_copyFrom_24 rfl ?_
  refine xi_bipush (v := 16) dX6_copyFrom_25 (by decide) ?_
  refine xi_copyi dX6_copyFrom_27 mlX6_66 xnat (sa2 hrq) (sa2 hr) (by decide) (by decide) (by decide) (by decide) (by decide) (by decide) (Nat.le_of_ble_eq_true rfl) ?_
  generalize eK2 : (xa K1 (r + 2) (va_cpy (K1.2.1 (q + 2)) (K1.2.1 (r + 2)) (0 : Int32).toNatClampNeg (0 : Int32).toNatClampNeg (16 : Int32).toNatClampNeg)) = K2
  have hC2 : Cp 2 r q M K2 := by rw [← eK2]; exact hC1.step hq (by omega) (by rfl)
  refine xi_aload_n dX6_copyFrom_30 rfl ?_
  refine xi_getR dX6_copyFrom_31 fgX6_18 (so hrq) rfl ?_
  refine xi_iconst (v := 0) dX6_copyFrom_34 rfl ?_
  refine xi_aload_n dX6_copyFrom_35 rfl ?_
  refine xi_getR dX6_copyFrom_36 fgX6_18 (so hr) rfl ?_
  refine xi_iconst (v := 0) dX6_copyFrom_39 rfl ?_
  refine xi_bipush (v := 16) dX6_copyFrom_40 (by decide) ?_
  refine xat 42 rfl ?_
  refine xi_copyi dX6_copyFrom_42 mlX6_66 xnat (sa3 hrq) (sa3 hr) (by decide) (by decide) (by decide) (by decide) (by decide) (by decide) (Nat.le_of_ble_eq_true rfl) ?_
  generalize eK3 : (xa K2 (r + 3) (va_cpy (K2.2.1 (q + 3)) (K2.2.1 (r + 3)) (0 : Int32).toNatClampNeg (0 : Int32).toNatClampNeg (16 : Int32).toNatClampNeg)) = K3
  have hC3 : Cp 3 r q M K3 := by rw [← eK3]; exact hC2.step hq (by omega) (by rfl)
  refine xi_aload_n dX6_copyFrom_45 rfl ?_
  refine xi_getR dX6_copyFrom_46 fgX6_21 (so hrq) rfl ?_
  refine xi_iconst (v := 0) dX6_copyFrom_49 rfl ?_
  refine xi_aload_n dX6_copyFrom_50 rfl ?_
  refine xi_getR dX6_copyFrom_51 fgX6_21 (so hr) rfl ?_
  refine xi_iconst (v := 0) dX6_copyFrom_54 rfl ?_
  refine xi_iconst (v := 4) dX6_copyFrom_55 rfl ?_
  refine xi_copyi dX6_copyFrom_56 mlX6_66 xnat (sa4 hrq) (sa4 hr) (by decide) (by decide) (by decide) (by decide) (by decide) (by decide) (Nat.le_of_ble_eq_true rfl) ?_
  generalize eK4 : (xa K3 (r + 4) (va_cpy (K3.2.1 (q + 4)) (K3.2.1 (r + 4)) (0 : Int32).toNatClampNeg (0 : Int32).toNatClampNeg (4 : Int32).toNatClampNeg)) = K4
  have hC4 : Cp 4 r q M K4 := by rw [← eK4]; exact hC3.step hq (by omega) (by rfl)
  refine xi_aload_n dX6_copyFrom_59 rfl ?_
  refine xi_getR dX6_copyFrom_60 fgX6_24 (so hrq) rfl ?_
  refine xi_iconst (v := 0) dX6_copyFrom_63 rfl ?_
  refine xat 64 rfl ?_
  refine xi_aload_n dX6_copyFrom_64 rfl ?_
  refine xi_getR dX6_copyFrom_65 fgX6_24 (so hr) rfl ?_
  refine xi_iconst (v := 0) dX6_copyFrom_68 rfl ?_
  refine xi_iconst (v := 4) dX6_copyFrom_69 rfl ?_
  refine xi_copyi dX6_copyFrom_70 mlX6_66 xnat (sa5 hrq) (sa5 hr) (by decide) (by decide) (by decide) (by decide) (by decide) (by decide) (Nat.le_of_ble_eq_true rfl) ?_
  generalize eK5 : (xa K4 (r + 5) (va_cpy (K4.2.1 (q + 5)) (K4.2.1 (r + 5)) (0 : Int32).toNatClampNeg (0 : Int32).toNatClampNeg (4 : Int32).toNatClampNeg)) = K5
  have hC5 : Cp 5 r q M K5 := by rw [← eK5]; exact hC4.step hq (by omega) (by rfl)
  refine xi_aload_n dX6_copyFrom_73 rfl ?_
  refine xi_getR dX6_copyFrom_74 fgX6_27 (so hrq) rfl ?_
  refine xi_iconst (v := 0) dX6_copyFrom_77 rfl ?_
  refine xi_aload_n dX6_copyFrom_78 rfl ?_
  refine xi_getR dX6_copyFrom_79 fgX6_27 (so hr) rfl ?_
  refine xi_iconst (v := 0) dX6_copyFrom_82 rfl ?_
  refine xi_iconst (v := 4) dX6_copyFrom_83 rfl ?_
  refine xat 84 rfl ?_
  refine xi_copyi dX6_copyFrom_84 mlX6_66 xnat (sa6 hrq) (sa6 hr) (by decide) (by decide) (by decide) (by decide) (by decide) (by decide) (Nat.le_of_ble_eq_true rfl) ?_
  generalize eK6 : (xa K5 (r + 6) (va_cpy (K5.2.1 (q + 6)) (K5.2.1 (r + 6)) (0 : Int32).toNatClampNeg (0 : Int32).toNatClampNeg (4 : Int32).toNatClampNeg)) = K6
  have hC6 : Cp 6 r q M K6 := by rw [← eK6]; exact hC5.step hq (by omega) (by rfl)
  refine xi_aload_n dX6_copyFrom_87 rfl ?_
  refine xi_getR dX6_copyFrom_88 fgX6_30 (so hrq) rfl ?_
  refine xi_iconst (v := 0) dX6_copyFrom_91 rfl ?_
  refine xi_aload_n dX6_copyFrom_92 rfl ?_
  refine xi_getR dX6_copyFrom_93 fgX6_30 (so hr) rfl ?_
  refine xi_iconst (v := 0) dX6_copyFrom_96 rfl ?_
  refine xi_iconst (v := 4) dX6_copyFrom_97 rfl ?_
  refine xi_copyi dX6_copyFrom_98 mlX6_66 xnat (sa7 hrq) (sa7 hr) (by decide) (by decide) (by decide) (by decide) (by decide) (by decide) (Nat.le_of_ble_eq_true rfl) ?_
  generalize eK7 : (xa K6 (r + 7) (va_cpy (K6.2.1 (q + 7)) (K6.2.1 (r + 7)) (0 : Int32).toNatClampNeg (0 : Int32).toNatClampNeg (4 : Int32).toNatClampNeg)) = K7
  have hC7 : Cp 7 r q M K7 := by rw [← eK7]; exact hC6.step hq (by omega) (by rfl)
  refine xi_aload_n dX6_copyFrom_101 rfl ?_
  refine xi_getR dX6_copyFrom_102 fgX6_33 (so hrq) rfl ?_
  refine xi_iconst (v := 0) dX6_copyFrom_105 rfl ?_
  refine xat 106 rfl ?_
  refine xi_aload_n dX6_copyFrom_106 rfl ?_
  refine xi_getR dX6_copyFrom_107 fgX6_33 (so hr) rfl ?_
  refine xi_iconst (v := 0) dX6_copyFrom_110 rfl ?_
  refine xi_iconst (v := 4) dX6_copyFrom_111 rfl ?_
  refine xi_copyi dX6_copyFrom_112 mlX6_66 xnat (sa8 hrq) (sa8 hr) (by decide) (by decide) (by decide) (by decide) (by decide) (by decide) (Nat.le_of_ble_eq_true rfl) ?_
  generalize eK8 : (xa K7 (r + 8) (va_cpy (K7.2.1 (q + 8)) (K7.2.1 (r + 8)) (0 : Int32).toNatClampNeg (0 : Int32).toNatClampNeg (4 : Int32).toNatClampNeg)) = K8
  have hC8 : Cp 8 r q M K8 := by rw [← eK8]; exact hC7.step hq (by omega) (by rfl)
  refine xi_aload_n dX6_copyFrom_115 rfl ?_
  refine xi_getR dX6_copyFrom_116 fgX6_36 (so hrq) rfl ?_
  refine xi_iconst (v := 0) dX6_copyFrom_119 rfl ?_
  refine xi_aload_n dX6_copyFrom_120 rfl ?_
  refine xi_getR dX6_copyFrom_121 fgX6_36 (so hr) rfl ?_
  refine xi_iconst (v := 0) dX6_copyFrom_124 rfl ?_
  refine xi_bipush (v := 8) dX6_copyFrom_125 (by decide) ?_
  refine xat 127 rfl ?_
  refine xi_copyi dX6_copyFrom_127 mlX6_66 xnat (sa9 hrq) (sa9 hr) (by decide) (by decide) (by decide) (by decide) (by decide) (by decide) (Nat.le_of_ble_eq_true rfl) ?_
  generalize eK9 : (xa K8 (r + 9) (va_cpy (K8.2.1 (q + 9)) (K8.2.1 (r + 9)) (0 : Int32).toNatClampNeg (0 : Int32).toNatClampNeg (8 : Int32).toNatClampNeg)) = K9
  have hC9 : Cp 9 r q M K9 := by rw [← eK9]; exact hC8.step hq (by omega) (by rfl)
  refine xi_vret dX6_copyFrom_130 rfl ?_
  exact h K9 hC9.1 (hC9.cs hW hS)

set_option maxHeartbeats 4000000 in
set_option maxRecDepth 100000 in
theorem g_at9 {M : xM} {t : Nat} {Q : Option Value → xM → Prop} (ht : t < 2147483648) (h : Q (some (.ref (61 + 10 * (t % 16)))) M) : WP shC mX5_stateAt 0 [some (.ref 9), some (.int (nI t))] [] M Q := by
  refine xi_aload_n dX5_stateAt_0 rfl ?_
  refine xi_getR dX5_stateAt_1 fgX5_9 cc9 rfl ?_
  refine xi_iload_n dX5_stateAt_4 rfl ?_
  refine xi_aload_n dX5_stateAt_5 rfl ?_
  refine xi_getR dX5_stateAt_6 fgX5_9 cc9 rfl ?_
  refine xi_alen4 (v := 16) dX5_stateAt_9 cc10 (by decide) ?_
  refine xi_iconst (v := 1) dX5_stateAt_10 rfl ?_
  refine xe_isub dX5_stateAt_11 (v := 15) (by decide) ?_
  refine xe_iand dX5_stateAt_12 (v := nI (t % 16)) (mem_15 (by omega)) ?_
  refine xe_aald4 (j := (61 + 10 * (t % 16))) (t % 16) dX5_stateAt_13 cc10 (by decide) rfl (by omega) (if_pos (by omega)) ?_
  refine xi_aret dX5_stateAt_14 rfl ?_
  exact h

set_option maxHeartbeats 4000000 in
set_option maxRecDepth 100000 in
theorem g_at11 {M : xM} {t : Nat} {Q : Option Value → xM → Prop} (ht : t < 2147483648) (h : Q (some (.ref 221)) M) : WP shC mX5_stateAt 0 [some (.ref 11), some (.int (nI t))] [] M Q := by
  refine xi_aload_n dX5_stateAt_0 rfl ?_
  refine xi_getR dX5_stateAt_1 fgX5_9 cc11 rfl ?_
  refine xi_iload_n dX5_stateAt_4 rfl ?_
  refine xi_aload_n dX5_stateAt_5 rfl ?_
  refine xi_getR dX5_stateAt_6 fgX5_9 cc11 rfl ?_
  refine xi_alen4 (v := 1) dX5_stateAt_9 cc12 (by decide) ?_
  refine xi_iconst (v := 1) dX5_stateAt_10 rfl ?_
  refine xe_isub dX5_stateAt_11 (v := 0) (by decide) ?_
  refine xe_iand dX5_stateAt_12 (v := nI 0) (by rw [show (0 : Int32) = nI 0 from rfl]; exact (pk_andN (n := t) (by omega) 0 (by decide)).trans (by rw [Nat.pow_zero, Nat.mod_one])) ?_
  refine xe_aald4 (j := 221) 0 dX5_stateAt_13 cc12 (by decide) rfl (by omega) (if_pos (by omega)) ?_
  refine xi_aret dX5_stateAt_14 rfl ?_
  exact h

