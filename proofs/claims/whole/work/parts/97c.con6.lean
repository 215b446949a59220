abbrev mX5_init : xY := (yX5_init, cX5_init, 4, none, 2, 60)
def nR5 (cA : Nat → ClassId) (h0 n : Nat) (y : Nat × (Nat → Nat → Nat)) : va_W := (h0, .inr (4, [.ref y.1])) :: (y.1, .inl (cA 4, n, .inr (.inr (.inr (.inr (bR y.2 n)))))) :: bW cA shX6 y.2 n
set_option maxHeartbeats 1000000 in
set_option maxRecDepth 100000 in
theorem n_X5 (l : Launch) (D : va_G) (cA : Nat → ClassId) (n : Nat) (hn : n ≤ 16) (h0 g sz : Nat) : Met l yX5_init (xws mX5_init) { frames := 2, cells := 1 + 10 * n, slots := n + 86 * n, locals := 60 } (va_Pc [.ref h0, .int (nI n), .ref g] (nPn D cA (h0, .inr (4, [.null])) sz)) (nQw D (nR5 cA h0 n) (fun y => ∀ j, j < n → y.2 j 10 = g) (va_A [(h0, .inr (4, [.null]))] sz)) (1 + 10 * n) (n + 86 * n) (va_A [(h0, .inr (4, [.null]))] sz) := by
  refine xOfW (cc := cX5_init) (maxL := 4) (ret := none) (plainFor_of_name (by decide +kernel)) rfl ?_
  intro p e s m args below meth c s₁ B hml hv
  obtain ⟨rfl, ⟨hsz, hP, hK, hD0⟩, hzn⟩ := hv
  have hx := B.exec
  have hb := B.bytes
  have hr := B.returns
  have hts := atoms_spec (ws := xws mX5_init) B.pre
  have hown : s.vm.findClass RX5 = some m.cls := findClass_of_methodNamed B.named
  have hlocks := B.notSynchronized
  have hin : meth.name = "<init>" := (name_of_methodNamed B.named B.method).1
  have ht : ∀ w ∈ xtb, w.before ([.ref h0, .int (nI n), .ref g] : List Value).toArray s = true := fun w h => hts w (List.mem_cons_of_mem _ h)
  subst hsz
  have hD := hD0.self (sz := s.heap.size)
  generalize hAe : va_A [(h0, .inr (4, [.null]))] s.heap.size = A at hD ⊢
  have hA : ∀ q : Nat, s.heap.size ≤ q → A q := fun q h => by rw [← hAe]; exact Or.inr h
  have hS : va_S A s.heap s.heap [] := va_S.rf
  have hl := lv_entry ([.ref h0, .int (nI n), .ref g]) (n := 4) (Nat.le_of_ble_eq_true rfl)
  rw [lg_entry_eq]
  generalize (lg_sl ([.ref h0, .int (nI n), .ref g]) ++ List.replicate (4 - (lg_sl ([.ref h0, .int (nI n), .ref g])).length) Slot.unset).toArray = ls at hl ⊢
  have hl : lv_has ls 4 [(0, .ref h0), (1, .int (nI n)), (2, .ref g)] := hl
  refine lv_aload_n hx hb dX5_init_0 rfl (lv_at hl 0 rfl) ?_
  refine W.objInit hx hb hown (ht _ (xint 148 (by decide +kernel) rfl : Cond.methodLink RX5 1 Lib.objectInit ∈ xtb)) (ht _ kOi) (ht _ kOc) rfl (by rw [hml]; exact hl.1) rfl dX5_init_1 (Nat.le_of_ble_eq_true rfl) (Nat.le_of_ble_eq_true rfl) ?_
  refine W.eq (g2 := F0 m 4 ls []) rfl ?_
  refine lv_aload_n hx hb dX5_init_4 rfl (lv_at hl 0 rfl) ?_
  refine lv_iload_n hx hb dX5_init_5 rfl (lv_at hl 1 rfl) ?_
  refine nw_newq 4 (N' := n) hx hb hown (ht _ (xint 149 (by decide +kernel) rfl : Cond.classLink RX5 7 RX6 ∈ xtb)) hzn.2.1 hK rfl hP hD hS hA (nI_pos (by omega)) (nI_clamp (by omega)) (by omega) (show 0 + 1 ≤ 1 + 10 * n by omega) (show 0 + n ≤ n + 86 * n by omega) dX5_init_6 (fun q H hP hD hS => ?_)
  refine va_putF (ci := 4) (v := .ref q) (ty := (.array (.object "RunJudge$State"))) (C := RX5) (T := TX5) (N := 1) hx hb hts (fun w h => List.mem_cons_of_mem _ (iwX5 w h)) tyX5 tyX5_ok nmX5 hown hK hP hD hS 0 rfl rfl 0 (by decide) (ht _ (xint 152 (by decide +kernel) rfl : Cond.fieldLink RX5 9 "RunJudge$Ring" "states" "[LRunJudge$State;" ∈ xtb)) (fun _ h9 => h9) rfl hin rfl (by decide +kernel) rfl rfl (Nat.le_of_ble_eq_true rfl) dX5_init_9 (fun H locs hP hD hS => ?_)
  refine lv_iconst (v := nI 0) hx hb dX5_init_12 rfl ?_
  refine lv_istore_n hx hb dX5_init_13 rfl hl (by decide) rfl (fun ls hl => ?_)
  have loop : ∀ (k j : Nat) (B : Nat → Nat → Nat) (H : Heap) (locs : List Loc) (ls : Array Slot), j + k = n → (∀ i, i < j → B i 10 = g) →
      va_P D vwCl ((h0, .inr (4, [.ref q])) :: (q, .inl (cA 4, n, .inr (.inr (.inr (.inr (bR B j)))))) :: bW cA shX6 B j) H → va_D A ((h0, .inr (4, [.ref q])) :: (q, .inl (cA 4, n, .inr (.inr (.inr (.inr (bR B j)))))) :: bW cA shX6 B j) → va_S A s.heap H locs →
      lv_has ls 4 [(3, .int (nI j)), (0, .ref h0), (1, .int (nI n)), (2, .ref g)] →
      W p l e (headSpec (xws mX5_init) { frames := 2, cells := 1 + 10 * n, slots := n + 86 * n, locals := 60 }).room s m ([.ref h0, .int (nI n), .ref g] : List Value).toArray below meth c H locs (1 + 10 * j) (n + 86 * j) (MQ below (nQw D (nR5 cA h0 n) (fun y => ∀ j, j < n → y.2 j 10 = g) A) ([.ref h0, .int (nI n), .ref g] : List Value).toArray s (1 + 10 * n) (n + 86 * n) A) (F0 m 14 ls []) := by
    intro k
    induction k with
    | zero =>
      intro j B H locs ls hj hB hP hD hS hl
      have e9 : n = j := by omega
      subst e9
      refine lv_iload_n hx hb dX5_init_14 rfl (lv_at hl 0 rfl) ?_
      refine lv_iload_n hx hb dX5_init_15 rfl (lv_at hl 2 rfl) ?_
      refine lv_icmp_ge (tgt := 39) hx hb dX5_init_16 rfl (fun _ => ?_) (fun h9 => absurd (Int32.le_refl _) h9)
      exact W.vret hx hb hr (fun t ht hW => ⟨⟨(q, B), rfl, hB, by rw [ht]; exact hP, hD⟩, hS.F ht⟩) hS.2.2 dX5_init_39 hlocks
    | succ k ih =>
      intro j B H locs ls hj hB hP hD hS hl
      refine lv_iload_n hx hb dX5_init_14 rfl (lv_at hl 0 rfl) ?_
      refine lv_iload_n hx hb dX5_init_15 rfl (lv_at hl 2 rfl) ?_
      refine lv_icmp_ge (tgt := 39) hx hb dX5_init_16 rfl (fun h9 => absurd ((nj_le (by omega) (by omega)).1 h9) (by omega)) (fun _ => ?_)
      refine lv_aload_n hx hb dX5_init_19 rfl (lv_at hl 1 rfl) ?_
      refine va_get (ci := 4) (v := .ref q) (C := RX5) (T := TX5) (N := 1) hx hb hts (fun w h => List.mem_cons_of_mem _ (iwX5 w h)) hown hK hP 0 rfl rfl 0 (by decide) (ht _ (xint 152 (by decide +kernel) rfl : Cond.fieldLink RX5 9 "RunJudge$Ring" "states" "[LRunJudge$State;" ∈ xtb)) (fun _ h9 => h9) rfl dX5_init_20 ?_
      refine lv_iload_n hx hb dX5_init_23 rfl (lv_at hl 0 rfl) ?_
      refine va_new (ci := 5) (fs := [.null, .null, .null, .null, .null, .null, .null, .null, .null, .null]) (C := RX6) (T := TX6) (N := 10) hx hb hts (fun w h => List.mem_cons_of_mem _ (iwX6 w h)) tyX6 tyX6_ok hown (ht _ (xint 149 (by decide +kernel) rfl : Cond.classLink RX5 7 RX6 ∈ xtb)) (ht _ (xint 97 (by decide +kernel) rfl : Cond.instantiable RX6 10 ∈ xtb)) (ht _ (xint 3 (by decide +kernel) rfl : Cond.initialized RX6 ∈ xtb)) hK hP hD hS hA rfl (fun j hj => by rcases (show j = 0 ∨ j = 1 ∨ j = 2 ∨ j = 3 ∨ j = 4 ∨ j = 5 ∨ j = 6 ∨ j = 7 ∨ j = 8 ∨ j = 9 by omega) with rfl | rfl | rfl | rfl | rfl | rfl | rfl | rfl | rfl | rfl <;> rfl) (show 1 + 10 * j + 1 ≤ 1 + 10 * n by omega) (show n + 86 * j + 10 ≤ n + 86 * n by omega) dX5_init_24 (fun q1 H hP hD hS => ?_)
      refine lv_dup hx hb dX5_init_27 rfl ?_
      refine lv_aload_n hx hb dX5_init_28 rfl (lv_at hl 3 rfl) ?_
      have hPx : va_P D vwCl [(q1, .inr (5, [.null, .null, .null, .null, .null, .null, .null, .null, .null, .null]))] H := fun k q hk => hP (_ + k) q (by rw [List.getElem?_append_right (Nat.le_add_right _ _), Nat.add_sub_cancel_left]; exact hk)
      have hDx : va_D (fun _ => True) [(q1, .inr (5, [.null, .null, .null, .null, .null, .null, .null, .null, .null, .null]))] := ⟨fun i j p q hi hj _ => by
    have h1 := (List.getElem?_eq_some_iff.mp hi).1
    have h2 := (List.getElem?_eq_some_iff.mp hj).1
    simp only [List.length_cons, List.length_nil] at h1 h2
    omega, fun _ _ _ => trivial⟩
      refine nw_go (va_runI (n := 1) (index := 15) (As := [.ref g]) (rest := [.ref q1, .int (nI j), .ref q]) ⟨hx, hb, hml, hown, hts⟩ (n_X6 l D cA q1 g H.size) ⟨callB_of (bytes := cX6_init) (maxL := 2) (ret := none) 1 hts (xgood (xinm (List.mem_of_getElem? (i := 100) (by decide +kernel)) rfl : Cond.code yX6_init cX6_init 2 none ∈ xtb)) rfl rfl rfl (ht _ (xint 3 (by decide +kernel) rfl : Cond.initialized RX6 ∈ xtb)) (ht _ (xint 151 (by decide +kernel) rfl : Cond.methodLink RX5 15 yX6_init ∈ xtb)) ⟨by decide +kernel, by decide +kernel, by decide +kernel⟩ ⟨Nat.le_of_ble_eq_true rfl, Nat.le_of_ble_eq_true rfl⟩, rfl, ht _ (xint 99 (by decide +kernel) rfl : Cond.instanceMethod yX6_init ∈ xtb)⟩
    ⟨nblind, fun U hU hW => ⟨rfl, by rw [hU], by rw [hU]; exact hPx, va_K.moved hW.alike hK, hDx⟩⟩ rfl rfl hl.1 rfl (lv_room (Nat.le_of_ble_eq_true rfl)) dX5_init_29 ⟨show 1 + 10 * j + 1 + 9 ≤ 1 + 10 * n by omega, show n + 86 * j + 10 + 76 ≤ n + 86 * n by omega⟩) hP hD hS hA (fun a1 H locs ha1 hP1 hD1 hS1 => ?_)
      obtain ⟨e1, e2⟩ := ha1
      subst e1
      have hP := hP1
      have hD := hD1
      have hS := hS1
      refine va_astq (r := (RX6, TX6, 10)) hx hb hK hP hD hS 1 4 (((h0, .inr (4, [.ref q])) :: (q, .inl (cA 4, n, .inr (.inr (.inr (.inr (bR B j)))))) :: bW cA shX6 B j : va_W).length) 5 rfl rfl (by rw [List.getElem?_append_right (Nat.le_refl _), Nat.sub_self]; rfl) rfl (nj_in (show j < n by omega) (by omega)) dX5_init_32 (fun H locs hP hD hS => ?_)
      have hP : va_P D vwCl ((h0, .inr (4, [.ref q])) :: (q, .inl (cA 4, n, .inr (.inr (.inr (.inr (va_up (bR B j) (nI j).toNatClampNeg (some (a1 0)))))))) :: (bW cA shX6 B j ++ xW cA a1 shX6 zM)) H := hP
      have hD : va_D A ((h0, .inr (4, [.ref q])) :: (q, .inl (cA 4, n, .inr (.inr (.inr (.inr (va_up (bR B j) (nI j).toNatClampNeg (some (a1 0)))))))) :: (bW cA shX6 B j ++ xW cA a1 shX6 zM)) := hD
      rw [nI_clamp (by omega), bR_up, bW_up] at hP hD
      refine lv_iinc hx hb dX5_init_33 hl (k := 0) rfl nj_1 (by decide) rfl (fun ls hl => ?_)
      refine lv_goto (tgt := 14) hx hb dX5_init_36 rfl ?_
      rw [show 1 + 10 * j + 1 + 9 = 1 + 10 * (j + 1) by omega, show n + 86 * j + 10 + 76 = n + 86 * (j + 1) by omega]
      refine ih (j + 1) (bUp B j a1) H locs ls (by omega) (fun i hi => ?_) hP hD hS hl
      by_cases h9 : i = j
      · subst h9
        rw [bUp_self]; exact e2
      · rw [bUp_ne (by omega)]; exact hB i (by omega)
  refine W.eq (g2 := F0 m 14 ls []) rfl ?_
  rw [show 0 + 1 = 1 + 10 * 0 by rfl, show 0 + n = n + 86 * 0 by omega]
  have hP : va_P D vwCl [(h0, .inr (4, [.ref q])), (q, .inl (cA 4, n, .inr (.inr (.inr (.inr (fun _ => none))))))] H := hP
  have hD : va_D A [(h0, .inr (4, [.ref q])), (q, .inl (cA 4, n, .inr (.inr (.inr (.inr (fun _ => none))))))] := hD
  rw [bR_0 (B := fun _ _ => 0)] at hP hD
  exact loop n 0 (fun _ _ => 0) H locs ls (Nat.zero_add n) (fun i hi => absurd hi (Nat.not_lt_zero i)) hP hD hS hl
