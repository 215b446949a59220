/-! the law's start: both sides made, the loop entered -/
theorem nblindZ {D : va_G} {cA : Nat → ClassId} {x : Nat × va_E} {sz : Nat} {av : List Value} {A : Nat → Prop} : FrameBlind (va_Pc av (fun U => nP D cA x sz U ∧ xZ A U)) := by
  intro a U g mk q
  obtain ⟨q0, ⟨q1, qP, qK, qD⟩, z0, t, z1, z2⟩ := q
  exact ⟨q0, ⟨q1, qP, va_K.moved (u := U) (U := U.calling g mk a) (Vm.Alike.refl U.vm) qK, qD⟩, va_Nw.same (u := U) (U := U.calling g mk a) rfl rfl z0, t, va_Z.moved (u := U) (U := U.calling g mk a) (Vm.Alike.refl U.vm) z1, va_T.moved (u := U) (U := U.calling g mk a) (Vm.Alike.refl U.vm) z2⟩
theorem nblindZn {D : va_G} {cA : Nat → ClassId} {x : Nat × va_E} {sz : Nat} {av : List Value} {A : Nat → Prop} : FrameBlind (va_Pc av (fun U => nPn D cA x sz U ∧ xZ A U)) := by
  intro a U g mk q
  obtain ⟨q0, ⟨⟨q1, qP, qK, qD⟩, qz⟩, z0, t, z1, z2⟩ := q
  exact ⟨q0, ⟨⟨q1, qP, va_K.moved (u := U) (U := U.calling g mk a) (Vm.Alike.refl U.vm) qK, qD⟩, xZn_calling qz⟩, va_Nw.same (u := U) (U := U.calling g mk a) rfl rfl z0, t, va_Z.moved (u := U) (U := U.calling g mk a) (Vm.Alike.refl U.vm) z1, va_T.moved (u := U) (U := U.calling g mk a) (Vm.Alike.refl U.vm) z2⟩
abbrev nXm (cA : Nat → ClassId) (y : (Nat → Nat) × xM) : va_W := xW cA y.1 shM y.2
abbrev nEm (h0 : Nat) (y : (Nat → Nat) × xM) : Prop := y.1 0 = h0 ∧ RepM (x0 7 7 2 tp0) y.2
theorem nRun_m {p : Program} {l : Launch} {e : Env} {R : Room} {s : State} {m : MethodId} {args : Array Value} {below : List Frame} {meth : Method} {c : Code} {H : Heap} {locs : List Loc} {cells slots mc ms : Nat} {g : JFrame} {rest : List Value} {D : va_G} {cA : Nat → ClassId} {h0 : Nat} {A B : Nat → Prop} {a : Array Value} (hr : va_Run p l e R s m args below meth c H locs cells slots mc ms g rest (nQm D cA h0 A a) B) : va_Run p l e R s m args below meth c H locs cells slots mc ms g rest (nQw D (nXm cA) (nEm h0) A a) B := by
  intro T hT X
  obtain ⟨v, st₀, t, T', L, h1, X', hL, e1, e2, ⟨⟨ad, M, h3, h4, h5, h6, h7⟩, hF⟩, st⟩ := hr T hT X
  exact ⟨v, st₀, t, T', L, h1, X', hL, e1, e2, ⟨⟨(ad, M), h3, ⟨h4, h5⟩, h6, h7⟩, hF⟩, st⟩
theorem xfree1 {x : Nat × va_E} {A : Nat → Prop} {s : State} {H : Heap} {locs : List Loc} {ws : va_W} (hD : va_D A (ws ++ [x])) (hS : va_S A s.heap H locs) (hA : ∀ q : Nat, s.heap.size ≤ q → A q) : ∀ q, va_A [x] H.size q → A q := by
  rintro q (⟨k, e9, h⟩ | h)
  · cases k with
    | zero =>
      have h2 : some x = some (q, e9) := h
      have h3 := hD.2 ws.length x (by rw [List.getElem?_append_right (Nat.le_refl _)]; simp)
      rw [Option.some.inj h2] at h3
      exact h3
    | succ k => simp at h
  · exact hA q (Nat.le_trans hS.1 h)
theorem LD_of {s : State} {cA : Nat → ClassId} {adC adM : Nat → Nat} {MC MM : xM} {o : Nat} {e : va_E} (hD : va_D (lA s) ((xW cA adC shC MC ++ xW cA adM shM MM) ++ [(o, e)])) : LD s adC adM o := by
  have lC : (xW cA adC shC MC).length = 241 := by rw [xW, List.length_mapIdx, shC_len]
  have lM : (xW cA adM shM MM).length = 23 := by rw [xW, List.length_mapIdx, shM_len]
  have kC : ∀ i, i < 241 → ∃ q, ((xW cA adC shC MC ++ xW cA adM shM MM) ++ [(o, e)])[i]? = some q ∧ q.1 = adC i := fun i hi => by
    have hl : i < shC.length := by rw [shC_len]; exact hi
    refine ⟨(adC i, xE cA adC MC i shC[i]), ?_, rfl⟩
    rw [List.getElem?_append_left (by rw [List.length_append, lC]; omega), List.getElem?_append_left (by rw [lC]; omega)]
    exact xW_at (List.getElem?_eq_getElem (by rw [shC_len]; exact hi))
  have kM : ∀ i, i < 23 → ∃ q, ((xW cA adC shC MC ++ xW cA adM shM MM) ++ [(o, e)])[241 + i]? = some q ∧ q.1 = adM i := fun i hi => by
    have hl : i < shM.length := by rw [shM_len]; exact hi
    refine ⟨(adM i, xE cA adM MM i shM[i]), ?_, rfl⟩
    rw [List.getElem?_append_left (by rw [List.length_append, lC, lM]; omega), List.getElem?_append_right (by rw [lC]; omega), lC, Nat.add_sub_cancel_left]
    exact xW_at (List.getElem?_eq_getElem (by rw [shM_len]; exact hi))
  have ko : ((xW cA adC shC MC ++ xW cA adM shM MM) ++ [(o, e)])[264]? = some (o, e) := by
    rw [List.getElem?_append_right (by rw [List.length_append, lC, lM]; omega), List.length_append, lC, lM]; rfl
  refine ⟨fun i hi => ?_, fun i hi => ?_, hD.2 _ _ ko, fun i hi j hj e9 => ?_, fun i hi j hj e9 => ?_, fun i hi j hj e9 => ?_, fun i hi e9 => ?_, fun i hi e9 => ?_⟩
  · obtain ⟨q, h1, h2⟩ := kC i hi
    have h3 := hD.2 _ _ h1
    rw [h2] at h3
    exact h3
  · obtain ⟨q, h1, h2⟩ := kM i hi
    have h3 := hD.2 _ _ h1
    rw [h2] at h3
    exact h3
  · obtain ⟨q, h1, h2⟩ := kC i hi
    obtain ⟨r, h3, h4⟩ := kC j hj
    exact hD.1 _ _ _ _ h1 h3 (by rw [h2, h4]; exact e9)
  · obtain ⟨q, h1, h2⟩ := kM i hi
    obtain ⟨r, h3, h4⟩ := kM j hj
    have h5 := hD.1 _ _ _ _ h1 h3 (by rw [h2, h4]; exact e9)
    omega
  · obtain ⟨q, h1, h2⟩ := kC i hi
    obtain ⟨r, h3, h4⟩ := kM j hj
    have h5 := hD.1 _ _ _ _ h1 h3 (by rw [h2, h4]; exact e9)
    omega
  · obtain ⟨q, h1, h2⟩ := kC i hi
    have h5 := hD.1 _ _ _ _ h1 ko (by rw [h2]; exact e9)
    omega
  · obtain ⟨q, h1, h2⟩ := kM i hi
    have h5 := hD.1 _ _ _ _ h1 ko (by rw [h2]; exact e9)
    omega
theorem wT_0 : ∀ d, wT (tp0 d) := fun d => by simp [wT, tp0]
set_option maxHeartbeats 1000000 in
set_option maxRecDepth 100000 in
theorem whole_start {p : Program} {e : Env} {s : State} {m : MethodId} {below : List Frame} {meth : Method} {c : Code} (l : Launch) (hlt : l.stackTraces = false) {b L : Nat} {xs : Nat → Int32} (hL : L ≤ 3072) (C0 : lw_At p s m meth c b L xs) : W p l e room_1 s m #[Value.ref b] below meth c s.heap [] 0 0 (lw_Z below #[Value.ref b] s) (entryFrame m ([Value.ref b] : List Value).toArray 8) := by
  obtain ⟨hx, hb, hr, hml, hown, hts, hXx, hbl, hlocks, hgv⟩ := id C0
  obtain ⟨cA, hcA⟩ := eT hts
  obtain ⟨dC, dI, hdC⟩ := eC hts
  obtain ⟨D, hK⟩ : ∃ D : va_G, va_K D vwCl (xtys cA) s := ⟨(dC, dI), hdC, hcA⟩
  have hzn : xZn s := eN hts
  have hZ : xZ (lA s) s := eZ hts hgv
  have hZx : xZx (lA s) s := eX hts hgv
  have ht : ∀ w ∈ xtb, w.before #[Value.ref b] s = true := fun w h => hts w (List.mem_filter.mp h).1
  have hA : ∀ q : Nat, s.heap.size ≤ q → lA s q := fun q h => h
  have hS : va_S (lA s) s.heap s.heap [] := va_S.rf
  have hP : va_P D vwCl [] s.heap := fun k q h => by simp at h
  have hD : va_D (lA s) [] := ⟨fun i j p q h => by simp at h, fun k q h => by simp at h⟩
  have hl := lv_entry ([.ref b]) (n := 8) (Nat.le_of_ble_eq_true rfl)
  rw [lg_entry_eq]
  generalize (lg_sl ([.ref b]) ++ List.replicate (8 - (lg_sl ([.ref b])).length) Slot.unset).toArray = ls at hl ⊢
  have hl : lv_has ls 8 [(0, .ref b)] := hl
  refine va_new (ci := 8) (fs := [.null, .null, .null, .null, .null, .null, .null, .null, .null, .int 0, .int 0, .int 0, .int 0, .int 0, .int 0]) (C := RX9) (T := TX9) (N := 15) hx hb hts (fun w h => (List.mem_filter.mp (iwX9 w h)).1) tyX9 tyX9_ok hown (ht _ (xint 20 (by decide +kernel) rfl : Cond.classLink RL 8 RX9 ∈ xtb)) (ht _ (xint 21 (by decide +kernel) rfl : Cond.instantiable RX9 15 ∈ xtb)) (ht _ (xint 1 (by decide +kernel) rfl : Cond.initialized RX9 ∈ xtb)) hK hP hD hS hA rfl (fun j hj => by rcases (show j = 0 ∨ j = 1 ∨ j = 2 ∨ j = 3 ∨ j = 4 ∨ j = 5 ∨ j = 6 ∨ j = 7 ∨ j = 8 ∨ j = 9 ∨ j = 10 ∨ j = 11 ∨ j = 12 ∨ j = 13 ∨ j = 14 by omega) with rfl | rfl | rfl | rfl | rfl | rfl | rfl | rfl | rfl | rfl | rfl | rfl | rfl | rfl | rfl <;> rfl) (Nat.le_of_ble_eq_true rfl) (Nat.le_of_ble_eq_true rfl) dL_law_0 (fun h0 H hP hD hS => ?_)
  refine lv_dup hx hb dL_law_3 rfl ?_
  have hPx : va_P D vwCl [(h0, .inr (8, [.null, .null, .null, .null, .null, .null, .null, .null, .null, .int 0, .int 0, .int 0, .int 0, .int 0, .int 0]))] H := fun k q hk => hP (_ + k) q (by rw [List.getElem?_append_right (Nat.le_add_right _ _), Nat.add_sub_cancel_left]; exact hk)
  have hDx : va_D (fun _ => True) [(h0, .inr (8, [.null, .null, .null, .null, .null, .null, .null, .null, .null, .int 0, .int 0, .int 0, .int 0, .int 0, .int 0]))] := ⟨fun i j p q hi hj _ => by
    have h1 := (List.getElem?_eq_some_iff.mp hi).1
    have h2 := (List.getElem?_eq_some_iff.mp hj).1
    simp only [List.length_cons, List.length_nil] at h1 h2
    omega, fun _ _ _ => trivial⟩
  have hF := xfree1 hD hS hA
  refine nw_goW ((va_runI (n := 0) (index := 17) (As := []) (rest := [.ref h0]) ⟨hx, hb, hml, hown, hts⟩ (n_X9 l D cA h0 H.size) ⟨callB_of (bytes := cX9_init) (maxL := 2) (ret := none) 0 hts (xgoodL (Z := mX9_init) (xinm (List.mem_of_getElem? (i := 24) (by decide +kernel)) rfl : Cond.code yX9_init cX9_init 2 none ∈ xtb)) rfl rfl rfl (ht _ (xint 1 (by decide +kernel) rfl : Cond.initialized RX9 ∈ xtb)) (ht _ (xint 22 (by decide +kernel) rfl : Cond.methodLink RL 17 yX9_init ∈ xtb)) ⟨by decide +kernel, by decide +kernel, by decide +kernel⟩ ⟨Nat.le_of_ble_eq_true rfl, Nat.le_of_ble_eq_true rfl⟩, rfl, ht _ (xint 23 (by decide +kernel) rfl : Cond.instanceMethod yX9_init ∈ xtb)⟩
    ⟨nblindZn, fun U hU hW => ⟨rfl, ⟨⟨by rw [hU], by rw [hU]; exact hPx, va_K.moved hW.alike hK, hDx⟩, xZn_to hW hzn⟩, xZ_to (locs := []) hZ hW (by rw [hU]; exact hS) hF⟩⟩ rfl rfl hl.1 rfl (lv_room (Nat.le_of_ble_eq_true rfl)) dL_law_4 ⟨Nat.le_of_ble_eq_true rfl, Nat.le_of_ble_eq_true rfl⟩)) hP hD hS hA (fun y H locs hy hP1 hD1 hS1 => ?_)
  obtain ⟨adC, MC⟩ := y
  obtain ⟨e0, hRC⟩ := hy
  have e0 : adC 0 = h0 := e0
  subst e0
  rw [List.nil_append] at hP1 hD1
  have hP : va_P D vwCl (xW cA adC shC MC) H := hP1
  have hD : va_D (lA s) (xW cA adC shC MC) := hD1
  have hS := hS1
  refine lv_astore_n hx hb dL_law_7 rfl hl (by decide) rfl (fun ls hl => ?_)
  refine va_new (ci := 9) (fs := [.int 0, .int 0, .int 0, .int 0, .null, .null, .int 0, .null, .int 0, .null, .int 0, .int 0, .int 0, .null, .null, .null, .null, .null, .int 0, .int 0, .int 0, .int 0, .int 0, .int 0, .int 0, .null, .null, .null, .null, .null, .null, .null, .null, .null, .null, .null, .null, .null]) (C := RX10) (T := TX10) (N := 38) hx hb hts (fun w h => (List.mem_filter.mp (iwX10 w h)).1) tyX10 tyX10_ok hown (ht _ (xint 998 (by decide +kernel) rfl : Cond.classLink RL 18 RX10 ∈ xtb)) (ht _ (xint 999 (by decide +kernel) rfl : Cond.instantiable RX10 38 ∈ xtb)) (ht _ (xint 12 (by decide +kernel) rfl : Cond.initialized RX10 ∈ xtb)) hK hP hD hS hA rfl (fun j hj => by rcases (show j = 0 ∨ j = 1 ∨ j = 2 ∨ j = 3 ∨ j = 4 ∨ j = 5 ∨ j = 6 ∨ j = 7 ∨ j = 8 ∨ j = 9 ∨ j = 10 ∨ j = 11 ∨ j = 12 ∨ j = 13 ∨ j = 14 ∨ j = 15 ∨ j = 16 ∨ j = 17 ∨ j = 18 ∨ j = 19 ∨ j = 20 ∨ j = 21 ∨ j = 22 ∨ j = 23 ∨ j = 24 ∨ j = 25 ∨ j = 26 ∨ j = 27 ∨ j = 28 ∨ j = 29 ∨ j = 30 ∨ j = 31 ∨ j = 32 ∨ j = 33 ∨ j = 34 ∨ j = 35 ∨ j = 36 ∨ j = 37 by omega) with rfl | rfl | rfl | rfl | rfl | rfl | rfl | rfl | rfl | rfl | rfl | rfl | rfl | rfl | rfl | rfl | rfl | rfl | rfl | rfl | rfl | rfl | rfl | rfl | rfl | rfl | rfl | rfl | rfl | rfl | rfl | rfl | rfl | rfl | rfl | rfl | rfl | rfl <;> rfl) (Nat.le_of_ble_eq_true rfl) (Nat.le_of_ble_eq_true rfl) dL_law_8 (fun m0 H hP hD hS => ?_)
  refine lv_dup hx hb dL_law_11 rfl ?_
  have hPx : va_P D vwCl [(m0, .inr (9, [.int 0, .int 0, .int 0, .int 0, .null, .null, .int 0, .null, .int 0, .null, .int 0, .int 0, .int 0, .null, .null, .null, .null, .null, .int 0, .int 0, .int 0, .int 0, .int 0, .int 0, .int 0, .null, .null, .null, .null, .null, .null, .null, .null, .null, .null, .null, .null, .null]))] H := fun k q hk => hP (_ + k) q (by rw [List.getElem?_append_right (Nat.le_add_right _ _), Nat.add_sub_cancel_left]; exact hk)
  have hDx : va_D (fun _ => True) [(m0, .inr (9, [.int 0, .int 0, .int 0, .int 0, .null, .null, .int 0, .null, .int 0, .null, .int 0, .int 0, .int 0, .null, .null, .null, .null, .null, .int 0, .int 0, .int 0, .int 0, .int 0, .int 0, .int 0, .null, .null, .null, .null, .null, .null, .null, .null, .null, .null, .null, .null, .null]))] := ⟨fun i j p q hi hj _ => by
    have h1 := (List.getElem?_eq_some_iff.mp hi).1
    have h2 := (List.getElem?_eq_some_iff.mp hj).1
    simp only [List.length_cons, List.length_nil] at h1 h2
    omega, fun _ _ _ => trivial⟩
  have hF := xfree1 hD hS hA
  refine nw_goW (nRun_m (va_runI (n := 0) (index := 20) (As := []) (rest := [.ref m0]) ⟨hx, hb, hml, hown, hts⟩ (n_X10 l D cA m0 H.size) ⟨callB_of (bytes := cX10_init) (maxL := 1) (ret := none) 0 hts (xgoodL (Z := mX10_init) (xinm (List.mem_of_getElem? (i := 1002) (by decide +kernel)) rfl : Cond.code yX10_init cX10_init 1 none ∈ xtb)) rfl rfl rfl (ht _ (xint 12 (by decide +kernel) rfl : Cond.initialized RX10 ∈ xtb)) (ht _ (xint 1000 (by decide +kernel) rfl : Cond.methodLink RL 20 yX10_init ∈ xtb)) ⟨by decide +kernel, by decide +kernel, by decide +kernel⟩ ⟨Nat.le_of_ble_eq_true rfl, Nat.le_of_ble_eq_true rfl⟩, rfl, ht _ (xint 1001 (by decide +kernel) rfl : Cond.instanceMethod yX10_init ∈ xtb)⟩
    ⟨nblindZ, fun U hU hW => ⟨rfl, ⟨by rw [hU], by rw [hU]; exact hPx, va_K.moved hW.alike hK, hDx⟩, xZ_to (locs := locs) hZ hW (by rw [hU]; exact hS) hF⟩⟩ rfl rfl hl.1 rfl (lv_room (Nat.le_of_ble_eq_true rfl)) dL_law_12 ⟨Nat.le_of_ble_eq_true rfl, Nat.le_of_ble_eq_true rfl⟩)) hP hD hS hA (fun z H locs hz hP1 hD1 hS1 => ?_)
  obtain ⟨adM, MM⟩ := z
  obtain ⟨e1, hRM⟩ := hz
  have e1 : adM 0 = m0 := e1
  subst e1
  have hP : va_P D vwCl (xW cA adC shC MC ++ xW cA adM shM MM) H := hP1
  have hD : va_D (lA s) (xW cA adC shC MC ++ xW cA adM shM MM) := hD1
  have hS := hS1
  refine lv_astore_n hx hb dL_law_15 rfl hl (by decide) rfl (fun ls hl => ?_)
  refine lv_iconst (v := nI 1) hx hb dL_law_16 rfl ?_
  refine nw_newa 3 (atype := .long) (ty := .long) (a0 := (1, .inr (.inl (fun _ => 0)))) hx hb (ht _ ka3) rfl hK rfl (fun _ h => h) hP hD hS hA (fun _ => rfl) (nI_pos (by decide)) (nI_clamp (by decide)) (by decide) (Nat.le_of_ble_eq_true rfl) (Nat.le_of_ble_eq_true rfl) dL_law_17 (fun o H hP hD hS => ?_)
  refine lv_astore_n hx hb dL_law_19 rfl hl (by decide) rfl (fun ls hl => ?_)
  refine lv_iconst (v := nI 0) hx hb dL_law_20 rfl ?_
  refine lv_istore hx hb dL_law_21 hl (by decide) rfl (fun ls hl => ?_)
  have K : LK p l s m meth c b L xs D cA adC adM o := ⟨C0, hlt, hK, hZ, hZx, LD_of hD⟩
  have hP2 := va_Pm.1 hP
  have X : LH D cA adC adM o s MC MM (fun _ => 0) H locs := ⟨va_Pm.2 (fun q hq => hP2 q (List.mem_append_left _ (List.mem_append_left _ hq))), va_Pm.2 (fun q hq => hP2 q (List.mem_append_left _ (List.mem_append_right _ hq))), hP2 _ (List.mem_append_right _ List.mem_cons_self), hS⟩
  have hl : lv_has ls 8 [(4, .int (nI 0)), (3, .ref o), (2, .ref (adM 0)), (1, .ref (adC 0)), (0, .ref b)] := hl
  have hl : lv_has ls 8 (lvL b adC adM o 0) := ⟨hl.1, hl.2.1, fun q hq => hl.2.2 q (by
    simp only [lvL, List.mem_cons, List.not_mem_nil, or_false] at hq ⊢
    rcases hq with h | h | h | h | h
    · exact Or.inr (Or.inr (Or.inr (Or.inr h)))
    · exact Or.inr (Or.inr (Or.inr (Or.inl h)))
    · exact Or.inr (Or.inr (Or.inl h))
    · exact Or.inr (Or.inl h)
    · exact Or.inl h)⟩
  exact law_loop K hL (L + 6) 0 (x0 7 7 2 tp0) MC MM (fun _ => 0) H locs ls _ _ (by omega) (by omega) (wX_0 (by decide) (by decide) (by decide) (by decide) (by decide) (by decide) wT_0) hRC hRM X ⟨by omega, by omega⟩ hl
