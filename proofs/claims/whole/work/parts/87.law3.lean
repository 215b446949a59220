/-! the law's cases toss and at; the loop -/
theorem gXl {ws : List Cond} (h : ∀ w ∈ ws, w ∈ xtb) : GoodIn lw_tbl ws := fun w hw => ⟨(List.mem_filter.mp (h w hw)).1, good_of_word (List.mem_filter.mp (h w hw)).2⟩
theorem xWc_in {cA : Nat → ClassId} {ad : Nat → Nat} {sh : List xSh} {M : xM} {n sz q o : Nat} {e : va_E} (hn : sh.length = n) (h : va_A ((o, e) :: xW cA ad sh M) sz q) : q = o ∨ (∃ i, i < n ∧ q = ad i) ∨ sz ≤ q := by
  subst hn
  rcases h with ⟨k, e7, z⟩ | z
  · cases k with
    | zero =>
      have z2 : some (o, e) = some (q, e7) := z
      exact Or.inl (Prod.mk.inj (Option.some.inj z2)).1.symm
    | succ k =>
      rw [List.getElem?_cons_succ] at z
      obtain ⟨a1, a2⟩ := xW_fst z
      exact Or.inr (Or.inl ⟨k, a1, a2⟩)
  · exact Or.inr (Or.inr z)
theorem hwT_in : hwT ∈ xtb := xinm (by decide +kernel) rfl
theorem hwL_in : hwL ∈ xtb := xinm (by decide +kernel) rfl
theorem kT1 : Cond.instanceMethod yX9_toss ∈ xtb := xinm (by decide +kernel) rfl
theorem kT2 : Cond.selects RX9 yX9_toss yX9_toss ∈ xtb := xinm (by decide +kernel) rfl
theorem kT3 : Cond.initialized RX9 ∈ xtb := xinm (by decide +kernel) rfl
theorem kL1 : Cond.static yL_at ∈ xtb := xinm (by decide +kernel) rfl
theorem kL2 : Cond.initialized RL ∈ xtb := xinm (by decide +kernel) rfl
theorem gTl : GoodIn lw_tbl (wsV RL 169 RX9 yX9_toss (hwT :: xtb)) := by
  refine gXl (fun w hw => ?_)
  rcases List.mem_append.mp hw with h | h
  · simp only [List.mem_cons, List.not_mem_nil, or_false] at h
    rcases h with rfl | rfl | rfl | rfl
    · exact mlL_169
    · exact kT1
    · exact kT2
    · exact kT3
  · rcases List.mem_cons.mp h with rfl | h
    · exact hwT_in
    · exact h
theorem gLl : GoodIn lw_tbl (va_wsS RL 146 yL_at (hwL :: xtb)) := by
  refine gXl (fun w hw => ?_)
  rcases List.mem_append.mp hw with h | h
  · simp only [List.mem_cons, List.not_mem_nil, or_false] at h
    rcases h with rfl | rfl | rfl
    · exact mlL_146
    · exact kL1
    · exact kL2
  · rcases List.mem_cons.mp h with rfl | h
    · exact hwL_in
    · exact h
set_option maxHeartbeats 4000000 in
set_option maxRecDepth 100000 in
theorem lc_toss {p : Program} {l : Launch} {e : Env} {s : State} {m : MethodId} {below : List Frame} {meth : Method} {c : Code} {b L : Nat} {xs : Nat → Int32} {D : va_G} {cA : Nat → ClassId} {adC adM : Nat → Nat} {o : Nat} {MC MM : xM} {f : Nat → Int64} {H : Heap} {locs : List Loc} {Qf : State → Prop} {cells slots i : Nat} {ls : Array Slot} {X : xX} (K : LK p l s m meth c b L xs D cA adC adM o) (hX : wX X) (hC : RepC X MC) (hM : RepM X MM) (XX : LH D cA adC adM o s MC MM f H locs) (hL : L < 2 ^ 31) (hi : i + 6 ≤ L) (hcs : cells + 1 ≤ 601024 ∧ slots + 6 ≤ 7293034) (hl : lv_has ls 8 (lvL b adC adM o i)) (fin : LF p l e s m below meth c b D cA adC adM o Qf cells slots i) : W p l e room_1 s m #[.ref b] below meth c H locs cells slots Qf (F0 m 1512 ls []) := by
  obtain ⟨⟨hx, hb, hr, hml, hown, hts, hXx, hbl, hlocks, hgv⟩, hlt, hK, hZ0, hZx, hLD⟩ := id K
  have ht : ∀ w ∈ xtb, w.before #[Value.ref b] s = true := fun w h => hts w (List.mem_filter.mp h).1
  refine lv_aload_n hx hb dL_law_1512 rfl (lv_at hl 1 rfl) ?_
  refine law_arg K XX.2.2.2 (i := i) (j := 1) (a0 := 0) (a4 := 4) hl rfl rfl hL (by omega) (by decide) dL_law_1513 dL_law_1514 dL_law_1516 dL_law_1517 dL_law_1518 ?_
  obtain ⟨hP, hP2, hP3, hS⟩ := id XX
  have hD := xW_D (cA := cA) (M := MC) (A := lA s) shC_len hLD.1 hLD.2.2.2.1
  have hF := xfree hD hS (fun _ h => h)
  have hMt := xMetH (Z := mX9_toss) (hh := hhT) (As := [.ref 0, .int (xs (i + 1))]) (by decide +kernel) rfl (Nat.le_of_ble_eq_true rfl) (cl_toss (QX := fun _ _ => False) (Q := fun r M' => RepC (st_toss X (xs (i + 1))).2 M' ∧ r = some (.int (st_toss X (xs (i + 1))).1)) hX hC (xs (i + 1)) (fun M2 h2 => ⟨h2, rfl⟩)) l hlt D cA adC H.size
  have hrv := va_recv hK hP (q := (RX9, TX9, 15)) rfl (xW_at (cA := cA) (ad := adC) (M := MC) cc0)
  refine xgoT (vx_runVX (hh := hhT) (C := RX9) (b := adC 0) (n := 1) (index := 169) (As := [.int (xs (i + 1))]) (rest := []) ⟨hx, hb, hml, hown, hts⟩ hMt (vx_cwVW (bytes := cX9_toss) (maxL := 5) (ret := some .int) (hh := hhT) 1 hts gTl rfl rfl rfl ⟨rfl, by decide +kernel, by decide +kernel, by decide +kernel⟩ ⟨by decide, by decide⟩)
    ⟨xblindX, hrv, fun U hU hW => ⟨rfl, by rw [hU], by rw [hU]; exact hP, va_K.moved hW.alike hK, hD.weaken (fun _ _ _ _ => trivial), xZ_to (locs := locs) hZ0 hW (by rw [hU]; exact hS) hF, xZx_to (locs := locs) hZx hW (by rw [hU]; exact hS) hF⟩⟩ rfl rfl hl.1 rfl (lv_room (Nat.le_of_ble_eq_true rfl)) dL_law_1519 ⟨hcs.1, hcs.2⟩) hS hF (fun r M' H1 locs1 hq hP1 hD1 hS1 hkp hz => ?_) (fun E9 M' H1 locs1 q9 ce hq _ _ _ _ _ _ _ _ => hq.elim)
  obtain ⟨hC, rfl⟩ := hq
  have XX := LH_C hLD XX hP1 hS1 hkp
  refine lv_aload_n hx hb dL_law_1522 rfl (lv_at hl 2 rfl) ?_
  refine law_arg K XX.2.2.2 (i := i) (j := 1) (a0 := 0) (a4 := 4) hl rfl rfl hL (by omega) (by decide) dL_law_1523 dL_law_1524 dL_law_1526 dL_law_1527 dL_law_1528 ?_
  refine law_M K XX [.int (xs (i + 1))] [.int _] dL_law_1529 zX10_toss mlL_172 rfl rfl rfl (fun _ => rfl) rfl (Nat.le_of_ble_eq_true rfl) (Nat.le_of_ble_eq_true rfl) hl.1 ⟨by decide, by decide⟩ ⟨hcs.1, hcs.2⟩ (mo_toss hX hM _ (fun MM2 hM H1 locs1 XX => ?_))
  refine lv_icmp_eq (tgt := 1562) hx hb dL_law_1532 (by decide) (fun _ => ?_) (fun z => absurd rfl z)
  exact fin _ _ _ _ _ _ _ (wx_toss hX _) hC hM XX hl
theorem a_at_le {X : xX} {x y : Int32} : (a_at X x y).1 ≤ 2 := by
  obtain ⟨G, S0, now, late, risk, A, L, sq, nl, rf, hr, lg, w, tp⟩ := X
  simp only [a_at]
  cases xix x 6 with
  | none => show 1 ≤ 2; omega
  | some d =>
    show (if (tp d).1 = 0 ∨ (tp d).1 = 5 then ((2 : Nat), (0 : Int64)) else match xix y (tp d).2.1 with | none => (2, 0) | some i => (0, (tp d).2.2.2.1 i)).1 ≤ 2
    split
    · exact Nat.le_refl 2
    · cases xix y (tp d).2.1 with
      | none => exact Nat.le_refl 2
      | some i => show 0 ≤ 2; omega
theorem blindL {D : va_G} {cA : Nat → ClassId} {w : va_W} {sz : Nat} {av : List Value} : FrameBlind (va_Pc av (fun U => U.heap.size = sz ∧ va_P D vwCl w U.heap ∧ va_K D vwCl (xtys cA) U ∧ va_D (fun _ => True) w ∧ xZ (va_A w sz) U ∧ xZx (va_A w sz) U)) := by
  intro a U g mk q
  obtain ⟨q0, q1, qP, qK, qD, ⟨z0, t, z1, z2⟩, zx⟩ := q
  exact ⟨q0, q1, qP, va_K.moved (u := U) (U := U.calling g mk a) (Vm.Alike.refl U.vm) qK, qD, ⟨va_Nw.same (u := U) (U := U.calling g mk a) rfl rfl z0, t, va_Z.moved (u := U) (U := U.calling g mk a) (Vm.Alike.refl U.vm) z1, va_T.moved (u := U) (U := U.calling g mk a) (Vm.Alike.refl U.vm) z2⟩, xZx_calling zx⟩
set_option maxHeartbeats 4000000 in
set_option maxRecDepth 100000 in
theorem lc_at {p : Program} {l : Launch} {e : Env} {s : State} {m : MethodId} {below : List Frame} {meth : Method} {c : Code} {b L : Nat} {xs : Nat → Int32} {D : va_G} {cA : Nat → ClassId} {adC adM : Nat → Nat} {o : Nat} {MC MM : xM} {f : Nat → Int64} {H : Heap} {locs : List Loc} {Qf : State → Prop} {cells slots i : Nat} {ls : Array Slot} {X : xX} (K : LK p l s m meth c b L xs D cA adC adM o) (hX : wX X) (hC : RepC X MC) (hM : RepM X MM) (XX : LH D cA adC adM o s MC MM f H locs) (hL : L < 2 ^ 31) (hi : i + 6 ≤ L) (hcs : cells + 1 ≤ 601024 ∧ slots + 6 ≤ 7293034) (hl : lv_has ls 8 (lvL b adC adM o i)) (fin : LF p l e s m below meth c b D cA adC adM o Qf cells slots i) : W p l e room_1 s m #[.ref b] below meth c H locs cells slots Qf (F0 m 1274 ls []) := by
  obtain ⟨⟨hx, hb, hr, hml, hown, hts, hXx, hbl, hlocks, hgv⟩, hlt, hK, hZ0, hZx, hLD⟩ := id K
  have ht : ∀ w ∈ xtb, w.before #[Value.ref b] s = true := fun w h => hts w (List.mem_filter.mp h).1
  refine lv_aload_n hx hb dL_law_1274 rfl (lv_at hl 1 rfl) ?_
  refine law_arg K XX.2.2.2 (i := i) (j := 1) (a0 := 0) (a4 := 4) hl rfl rfl hL (by omega) (by decide) dL_law_1275 dL_law_1276 dL_law_1278 dL_law_1279 dL_law_1280 ?_
  refine law_arg K XX.2.2.2 (i := i) (j := 2) (a0 := 0) (a4 := 4) hl rfl rfl hL (by omega) (by decide) dL_law_1281 dL_law_1282 dL_law_1284 dL_law_1285 dL_law_1286 ?_
  refine lv_aload_n hx hb dL_law_1287 rfl (lv_at hl 3 rfl) ?_
  obtain ⟨hP, hP2, hP3, hS⟩ := id XX
  have hPw : va_P D vwCl (oL cA o f :: xW cA adC shC MC) H := va_Pcons hP3 hP
  have hD : va_D (lA s) (oL cA o f :: xW cA adC shC MC) := xW_Dc shC_len hLD.1 hLD.2.2.2.1 hLD.2.2.1 hLD.2.2.2.2.2.2.1
  have hF : ∀ q, va_A (oL cA o f :: xW cA adC shC MC) H.size q → lA s q := by
    rintro q (⟨k, e9, h⟩ | h)
    · exact hD.2 k (q, e9) h
    · exact Nat.le_trans hS.1 h
  have hr9 := vx_runSW (e := e) (below := below) (meth := meth) (locs := locs) (cells := cells) (slots := slots) (hh := hhL) (n := 4) (index := 146) (As := [.ref (adC 0), .int (xs (i + 1)), .int (xs (i + 2)), .ref o]) (rest := []) (g := F0 m 1288 ls [.ref o, .int (xs (i + 2)), .int (xs (i + 1)), .ref (adC 0)]) ⟨hx, hb, hml, hown, hts⟩ (c_Lat l hlt D cA adC o H.size f (xs (i + 1)) (xs (i + 2)) hX hC) (vx_cwSW (R := room_1) (bytes := cL_at) (maxL := 5) (ret := some .int) (hh := hhL) 4 hts gLl rfl rfl rfl ⟨by decide +kernel, by decide +kernel, by decide +kernel⟩ ⟨by decide, by decide⟩)
    (H := H) ⟨blindL, fun U hU hW => ⟨rfl, by rw [hU], by rw [hU]; exact hPw, va_K.moved hW.alike hK, hD.weaken (fun _ _ _ _ => trivial), xZ_to (locs := locs) hZ0 hW (by rw [hU]; exact hS) hF, xZx_to (locs := locs) hZx hW (by rw [hU]; exact hS) hF⟩⟩ rfl rfl hl.1 rfl (lv_room (Nat.le_of_ble_eq_true rfl)) dL_law_1288 ⟨hcs.1, hcs.2⟩
  have go : ∀ (f2 : Nat → Int64) (H1 : Heap) (locs1 : List Loc), ((a_at X (xs (i + 1)) (xs (i + 2))).1 = 0 → f2 0 = (a_at X (xs (i + 1)) (xs (i + 2))).2) → LH D cA adC adM o s MC MM f2 H1 locs1 → W p l e room_1 s m #[.ref b] below meth c H1 locs1 (cells + 1) (slots + 6) Qf (F0 m 1291 ls [.int (nI (a_at X (xs (i + 1)) (xs (i + 2))).1)]) := by
    intro f2 H locs hf2 XX
    refine lv_istore (lv' := [(5, .int (nI (a_at X (xs (i + 1)) (xs (i + 2))).1)), (0, .ref b), (1, .ref (adC 0)), (2, .ref (adM 0)), (3, .ref o), (4, .int (nI i))]) hx hb dL_law_1291 hl (by decide) rfl (fun ls hl => ?_)
    refine lv_aload_n hx hb dL_law_1293 rfl (lv_at hl 3 rfl) ?_
    refine law_arg K XX.2.2.2 (i := i) (j := 1) (a0 := 1) (a4 := 5) hl rfl rfl hL (by omega) (by decide) dL_law_1294 dL_law_1295 dL_law_1297 dL_law_1298 dL_law_1299 ?_
    refine law_arg K XX.2.2.2 (i := i) (j := 2) (a0 := 1) (a4 := 5) hl rfl rfl hL (by omega) (by decide) dL_law_1300 dL_law_1301 dL_law_1303 dL_law_1304 dL_law_1305 ?_
    refine law_M K XX [.int (xs (i + 1)), .int (xs (i + 2))] [] dL_law_1306 zX10_at mlL_151 rfl rfl rfl (fun _ => rfl) rfl (Nat.le_of_ble_eq_true rfl) (Nat.le_of_ble_eq_true rfl) hl.1 ⟨by decide, by decide⟩ ⟨hcs.1, hcs.2⟩ (mo_at hX hM _ _ (fun MM2 hM hth H1 locs1 XX => ?_))
    refine lv_lstore (lv' := [(6, .long (a_at X (xs (i + 1)) (xs (i + 2))).2), (5, .int (nI (a_at X (xs (i + 1)) (xs (i + 2))).1)), (0, .ref b), (1, .ref (adC 0)), (2, .ref (adM 0)), (3, .ref o), (4, .int (nI i))]) hx hb dL_law_1309 hl (by decide) rfl (fun ls hl => ?_)
    refine lv_aload_n hx hb dL_law_1311 rfl (lv_at hl 4 rfl) ?_
    refine law_M K XX [] [] dL_law_1312 zX10_thrown mlL_152 rfl rfl rfl (fun _ => rfl) rfl (Nat.le_of_ble_eq_true rfl) (Nat.le_of_ble_eq_true rfl) hl.1 ⟨by decide, by decide⟩ ⟨hcs.1, hcs.2⟩ (mo_thrown hth (fun H1 locs1 XX => ?_))
    refine lv_iload hx hb dL_law_1315 (lv_at hl 1 rfl) ?_
    refine lv_icmp_eq (tgt := 1322) hx hb dL_law_1317 (by decide) (fun _ => ?_) (fun z => absurd rfl z)
    have last : W p l e room_1 s m #[.ref b] below meth c H1 locs1 (cells + 1) (slots + 6) Qf (F0 m 1338 ls []) := by
      refine lv_goto (tgt := 1562) hx hb dL_law_1338 (by decide) ?_
      exact fin _ _ _ _ _ _ _ hX hC hM XX (lv_sub hl [2, 3, 4, 5, 6] rfl)
    refine lv_iload hx hb dL_law_1322 (lv_at hl 1 rfl) ?_
    refine lv_if_ne (tgt := 1338) hx hb dL_law_1324 (by decide) (fun _ => last) (fun z => ?_)
    have z0 : (a_at X (xs (i + 1)) (xs (i + 2))).1 = 0 := (nI_eq (Nat.lt_of_le_of_lt a_at_le (by decide)) (by decide)).mp (z.trans nI_0.symm)
    refine lv_aload_n hx hb dL_law_1327 rfl (lv_at hl 5 rfl) ?_
    refine lv_iconst (v := 0) hx hb dL_law_1328 (by decide) ?_
    refine va_lald (ws := [oL cA o f2]) hx hb hK (va_Pcons XX.2.2.1 (fun k q h => by cases h)) 0 3 rfl rfl (by unfold vp_in; decide) dL_law_1329 ?_
    refine lv_lload hx hb dL_law_1330 (lv_at hl 0 rfl) ?_
    refine W.lcmp hx hb dL_law_1332 ?_
    refine lv_if_eq (tgt := 1338) hx hb dL_law_1333 (by decide) (fun _ => last) (fun z => absurd ?_ z)
    rw [← hf2 z0]
    exact lg_cmp_self _
  intro T hT XS
  obtain ⟨v, st₀, t, T', L9, h0, X', hL9, e1, e2, ⟨⟨f2, hv, hf2, hP9⟩, hF9⟩, st9⟩ := hr9 T hT XS
  cases hv
  obtain ⟨k1, k2, k3⟩ := vx_keep (A0 := lA s) h0 e1 hS (fun q _ h => hF q h) hF hL9 hF9
  rw [← e1] at hP9
  have XX1 : LH D cA adC adM o s MC MM f2 T'.heap (locs ++ L9) := by
    refine ⟨va_Ptl hP9, hP2.kept (fun k q h => ?_), hP9 0 _ rfl, k3⟩
    obtain ⟨a1, a2⟩ := xW_fst h
    rw [shM_len] at a1
    have hlt := (hP2 k q h).lt
    refine k2 _ hlt ?_
    intro h7
    rcases xWc_in shC_len h7 with h7 | ⟨k7, c1, c2⟩ | h7
    · exact hLD.2.2.2.2.2.2.2 k a1 (a2.symm.trans h7)
    · exact hLD.2.2.2.2.2.1 k7 c1 k a1 (c2.symm.trans a2)
    · omega
  obtain ⟨t2, g1, g2⟩ := go f2 T'.heap (locs ++ L9) hf2 XX1 T' rfl X'
  exact ⟨t2, st9 t2 g1, g2⟩
