abbrev mX9_init : xY := (yX9_init, cX9_init, 2, none, 4, 100)
set_option maxHeartbeats 1000000 in
set_option maxRecDepth 100000 in
theorem nl_S {p : Program} {l : Launch} {e : Env} {s : State} {m : MethodId} {args : Array Value} {below : List Frame} {meth : Method} {c : Code} {Q : State → Prop} {D : va_G} {cA : Nat → ClassId} {A : Nat → Prop} {h0 q : Nat} {fs : List Value} {Rs : va_W} (hx : p.tables.exec = Jvm.exec) (hb : c.code = cX9_init) (hml : c.maxLocals = 2) (hown : s.vm.findClass RX9 = some m.cls) (hts : ∀ w ∈ xws mX9_init, w.before args s = true) (hK : va_K D vwCl (xtys cA) s) (hzn : xZn s) (hA : ∀ q : Nat, s.heap.size ≤ q → A q) (hf : fs[6]? = some (.ref q))
    (kont : ∀ (B : Nat → Nat → Nat) (H : Heap) (locs : List Loc) (ls : Array Slot), va_P D vwCl ((h0, .inr (8, fs)) :: (q, .inl (cA 5, 4, .inr (.inr (.inr (.inr (bR B 4)))))) :: (Rs ++ bW cA shX7 B 4)) H → va_D A ((h0, .inr (8, fs)) :: (q, .inl (cA 5, 4, .inr (.inr (.inr (.inr (bR B 4)))))) :: (Rs ++ bW cA shX7 B 4)) → va_S A s.heap H locs → lv_has ls 2 [(1, .int (nI 4)), (0, .ref h0)] → W p l e (headSpec (xws mX9_init) { frames := 4, cells := 240, slots := 10401, locals := 100 }).room s m args below meth c H locs 220 9281 Q (F0 m 119 ls [])) :
    ∀ (k j : Nat) (B : Nat → Nat → Nat) (H : Heap) (locs : List Loc) (ls : Array Slot), j + k = 4 → va_P D vwCl ((h0, .inr (8, fs)) :: (q, .inl (cA 5, 4, .inr (.inr (.inr (.inr (bR B j)))))) :: (Rs ++ bW cA shX7 B j)) H → va_D A ((h0, .inr (8, fs)) :: (q, .inl (cA 5, 4, .inr (.inr (.inr (.inr (bR B j)))))) :: (Rs ++ bW cA shX7 B j)) → va_S A s.heap H locs → lv_has ls 2 [(1, .int (nI j)), (0, .ref h0)] → W p l e (headSpec (xws mX9_init) { frames := 4, cells := 240, slots := 10401, locals := 100 }).room s m args below meth c H locs (200 + 5 * j) (8705 + 144 * j) Q (F0 m 95 ls []) := by
  have ht : ∀ w ∈ xtb, w.before args s = true := fun w h => hts w (List.mem_cons_of_mem _ h)
  intro k
  induction k with
  | zero =>
    intro j B H locs ls hj hP hD hS hl
    have e9 : j = 4 := by omega
    subst e9
    refine lv_iload_n hx hb dX9_init_95 rfl (lv_at hl 0 rfl) ?_
    refine lv_iconst (v := nI 4) hx hb dX9_init_96 rfl ?_
    refine lv_icmp_ge (tgt := 119) hx hb dX9_init_97 rfl (fun _ => ?_) (fun h9 => absurd (Int32.le_refl _) h9)
    exact kont B H locs ls hP hD hS hl
  | succ k ih =>
    intro j B H locs ls hj hP hD hS hl
    refine lv_iload_n hx hb dX9_init_95 rfl (lv_at hl 0 rfl) ?_
    refine lv_iconst (v := nI 4) hx hb dX9_init_96 rfl ?_
    refine lv_icmp_ge (tgt := 119) hx hb dX9_init_97 rfl (fun h9 => absurd ((nj_le (by omega) (by omega)).1 h9) (by omega)) (fun _ => ?_)
    refine lv_aload_n hx hb dX9_init_100 rfl (lv_at hl 1 rfl) ?_
    refine va_get (ci := 8) (v := .ref q) (C := RX9) (T := TX9) (N := 15) hx hb hts (fun w h => List.mem_cons_of_mem _ (iwX9 w h)) hown hK hP 0 rfl rfl 6 (by decide) (ht _ (xint 353 (by decide +kernel) rfl : Cond.fieldLink RX9 53 "RunJudge" "suspects" "[LRunJudge$Suspect;" ∈ xtb)) (fun _ h9 => h9) hf dX9_init_101 ?_
    refine lv_iload_n hx hb dX9_init_104 rfl (lv_at hl 0 rfl) ?_
    refine va_new (ci := 6) (fs := [.null, .null, .int 0, .int 0, .int 0, .int 0]) (C := RX7) (T := TX7) (N := 6) hx hb hts (fun w h => List.mem_cons_of_mem _ (iwX7 w h)) tyX7 tyX7_ok hown (ht _ (xint 203 (by decide +kernel) rfl : Cond.classLink RX9 51 RX7 ∈ xtb)) (ht _ (xint 205 (by decide +kernel) rfl : Cond.instantiable RX7 6 ∈ xtb)) (ht _ (xint 7 (by decide +kernel) rfl : Cond.initialized RX7 ∈ xtb)) hK hP hD hS hA rfl (fun j hj => by rcases (show j = 0 ∨ j = 1 ∨ j = 2 ∨ j = 3 ∨ j = 4 ∨ j = 5 by omega) with rfl | rfl | rfl | rfl | rfl | rfl <;> rfl) (show 200 + 5 * j + 1 ≤ 240 by omega) (show 8705 + 144 * j + 6 ≤ 10401 by omega) dX9_init_105 (fun q1 H hP hD hS => ?_)
    refine lv_dup hx hb dX9_init_108 rfl ?_
    have hPx : va_P D vwCl [(q1, .inr (6, [.null, .null, .int 0, .int 0, .int 0, .int 0]))] H := fun k q hk => hP (_ + k) q (by rw [List.getElem?_append_right (Nat.le_add_right _ _), Nat.add_sub_cancel_left]; exact hk)
    have hDx : va_D (fun _ => True) [(q1, .inr (6, [.null, .null, .int 0, .int 0, .int 0, .int 0]))] := ⟨fun i j p q hi hj _ => by
    have h1 := (List.getElem?_eq_some_iff.mp hi).1
    have h2 := (List.getElem?_eq_some_iff.mp hj).1
    simp only [List.length_cons, List.length_nil] at h1 h2
    omega, fun _ _ _ => trivial⟩
    refine nw_go (va_runIN (host := "RunJudge") (n := 0) (index := 57) (As := []) (rest := [.ref q1, .int (nI j), .ref q]) ⟨hx, hb, hml, hown, hts⟩ (n_X7 l D cA q1 H.size) ⟨va_cnB (bytes := cX7_init) (maxL := 1) (ret := none) 0 hts (xgood (xinm (List.mem_of_getElem? (i := 208) (by decide +kernel)) rfl : Cond.code yX7_init cX7_init 1 none ∈ xtb)) rfl rfl rfl (hzn.1 _ (by decide)) (ht _ (xint 7 (by decide +kernel) rfl : Cond.initialized RX7 ∈ xtb)) ⟨by decide +kernel, by decide +kernel, by decide +kernel⟩ ⟨Nat.le_of_ble_eq_true rfl, Nat.le_of_ble_eq_true rfl⟩, rfl, ht _ (xint 207 (by decide +kernel) rfl : Cond.instanceMethod yX7_init ∈ xtb)⟩
    ⟨nblindN, fun U hU hW => ⟨rfl, ⟨by rw [hU], by rw [hU]; exact hPx, va_K.moved hW.alike hK, hDx⟩, xZn_to hW hzn⟩⟩ rfl rfl hl.1 rfl (lv_room (Nat.le_of_ble_eq_true rfl)) dX9_init_109 ⟨show 200 + 5 * j + 1 + 4 ≤ 240 by omega, show 8705 + 144 * j + 6 + 138 ≤ 10401 by omega⟩) hP hD hS hA (fun a1 H locs ha1 hP1 hD1 hS1 => ?_)
    subst ha1
    have hP := hP1
    have hD := hD1
    have hS := hS1
    refine va_astq (r := (RX7, TX7, 6)) hx hb hK hP hD hS 1 5 (((h0, .inr (8, fs)) :: (q, .inl (cA 5, 4, .inr (.inr (.inr (.inr (bR B j)))))) :: (Rs ++ bW cA shX7 B j) : va_W).length) 6 rfl rfl (by rw [List.getElem?_append_right (Nat.le_refl _), Nat.sub_self]; rfl) rfl (nj_in (show j < 4 by omega) (by omega)) dX9_init_112 (fun H locs hP hD hS => ?_)
    have hP : va_P D vwCl ((h0, .inr (8, fs)) :: (q, .inl (cA 5, 4, .inr (.inr (.inr (.inr (va_up (bR B j) (nI j).toNatClampNeg (some (a1 0)))))))) :: (Rs ++ bW cA shX7 B j ++ xW cA a1 shX7 zM)) H := hP
    have hD : va_D A ((h0, .inr (8, fs)) :: (q, .inl (cA 5, 4, .inr (.inr (.inr (.inr (va_up (bR B j) (nI j).toNatClampNeg (some (a1 0)))))))) :: (Rs ++ bW cA shX7 B j ++ xW cA a1 shX7 zM)) := hD
    rw [nI_clamp (by omega), bR_up, List.append_assoc, bW_up] at hP hD
    refine lv_iinc hx hb dX9_init_113 hl (k := 0) rfl nj_1 (by decide) rfl (fun ls hl => ?_)
    refine lv_goto (tgt := 95) hx hb dX9_init_116 rfl ?_
    rw [show 200 + 5 * j + 1 + 4 = 200 + 5 * (j + 1) by omega, show 8705 + 144 * j + 6 + 138 = 8705 + 144 * (j + 1) by omega]
    exact ih (j + 1) (bUp B j a1) H locs ls (by omega) hP hD hS hl
set_option maxHeartbeats 1000000 in
set_option maxRecDepth 100000 in
theorem nl_T {p : Program} {l : Launch} {e : Env} {s : State} {m : MethodId} {args : Array Value} {below : List Frame} {meth : Method} {c : Code} {Q : State → Prop} {D : va_G} {cA : Nat → ClassId} {A : Nat → Prop} {h0 q : Nat} {fs : List Value} {Rs : va_W} (hx : p.tables.exec = Jvm.exec) (hb : c.code = cX9_init) (hml : c.maxLocals = 2) (hown : s.vm.findClass RX9 = some m.cls) (hts : ∀ w ∈ xws mX9_init, w.before args s = true) (hK : va_K D vwCl (xtys cA) s) (hzn : xZn s) (hA : ∀ q : Nat, s.heap.size ≤ q → A q) (hf : fs[7]? = some (.ref q))
    (kont : ∀ (B : Nat → Nat → Nat) (H : Heap) (locs : List Loc) (ls : Array Slot), va_P D vwCl ((h0, .inr (8, fs)) :: (q, .inl (cA 6, 6, .inr (.inr (.inr (.inr (bR B 6)))))) :: (Rs ++ bW cA shX8 B 6)) H → va_D A ((h0, .inr (8, fs)) :: (q, .inl (cA 6, 6, .inr (.inr (.inr (.inr (bR B 6)))))) :: (Rs ++ bW cA shX8 B 6)) → va_S A s.heap H locs → lv_has ls 2 [(1, .int (nI 6)), (0, .ref h0)] → W p l e (headSpec (xws mX9_init) { frames := 4, cells := 240, slots := 10401, locals := 100 }).room s m args below meth c H locs 239 10397 Q (F0 m 155 ls [])) :
    ∀ (k j : Nat) (B : Nat → Nat → Nat) (H : Heap) (locs : List Loc) (ls : Array Slot), j + k = 6 → va_P D vwCl ((h0, .inr (8, fs)) :: (q, .inl (cA 6, 6, .inr (.inr (.inr (.inr (bR B j)))))) :: (Rs ++ bW cA shX8 B j)) H → va_D A ((h0, .inr (8, fs)) :: (q, .inl (cA 6, 6, .inr (.inr (.inr (.inr (bR B j)))))) :: (Rs ++ bW cA shX8 B j)) → va_S A s.heap H locs → lv_has ls 2 [(1, .int (nI j)), (0, .ref h0)] → W p l e (headSpec (xws mX9_init) { frames := 4, cells := 240, slots := 10401, locals := 100 }).room s m args below meth c H locs (221 + 3 * j) (9287 + 185 * j) Q (F0 m 130 ls []) := by
  have ht : ∀ w ∈ xtb, w.before args s = true := fun w h => hts w (List.mem_cons_of_mem _ h)
  intro k
  induction k with
  | zero =>
    intro j B H locs ls hj hP hD hS hl
    have e9 : j = 6 := by omega
    subst e9
    refine lv_iload_n hx hb dX9_init_130 rfl (lv_at hl 0 rfl) ?_
    refine lv_bipush (v := nI 6) hx hb dX9_init_131 rfl ?_
    refine lv_icmp_ge (tgt := 155) hx hb dX9_init_133 rfl (fun _ => ?_) (fun h9 => absurd (Int32.le_refl _) h9)
    exact kont B H locs ls hP hD hS hl
  | succ k ih =>
    intro j B H locs ls hj hP hD hS hl
    refine lv_iload_n hx hb dX9_init_130 rfl (lv_at hl 0 rfl) ?_
    refine lv_bipush (v := nI 6) hx hb dX9_init_131 rfl ?_
    refine lv_icmp_ge (tgt := 155) hx hb dX9_init_133 rfl (fun h9 => absurd ((nj_le (by omega) (by omega)).1 h9) (by omega)) (fun _ => ?_)
    refine lv_aload_n hx hb dX9_init_136 rfl (lv_at hl 1 rfl) ?_
    refine va_get (ci := 8) (v := .ref q) (C := RX9) (T := TX9) (N := 15) hx hb hts (fun w h => List.mem_cons_of_mem _ (iwX9 w h)) hown hK hP 0 rfl rfl 7 (by decide) (ht _ (xint 354 (by decide +kernel) rfl : Cond.fieldLink RX9 60 "RunJudge" "tapes" "[LRunJudge$Tape;" ∈ xtb)) (fun _ h9 => h9) hf dX9_init_137 ?_
    refine lv_iload_n hx hb dX9_init_140 rfl (lv_at hl 0 rfl) ?_
    refine va_new (ci := 7) (fs := [.int 0, .int 0, .int 0, .null, .null]) (C := RX8) (T := TX8) (N := 5) hx hb hts (fun w h => List.mem_cons_of_mem _ (iwX8 w h)) tyX8 tyX8_ok hown (ht _ (xint 255 (by decide +kernel) rfl : Cond.classLink RX9 58 RX8 ∈ xtb)) (ht _ (xint 257 (by decide +kernel) rfl : Cond.instantiable RX8 5 ∈ xtb)) (ht _ (xint 9 (by decide +kernel) rfl : Cond.initialized RX8 ∈ xtb)) hK hP hD hS hA rfl (fun j hj => by rcases (show j = 0 ∨ j = 1 ∨ j = 2 ∨ j = 3 ∨ j = 4 by omega) with rfl | rfl | rfl | rfl | rfl <;> rfl) (show 221 + 3 * j + 1 ≤ 240 by omega) (show 9287 + 185 * j + 5 ≤ 10401 by omega) dX9_init_141 (fun q1 H hP hD hS => ?_)
    refine lv_dup hx hb dX9_init_144 rfl ?_
    have hPx : va_P D vwCl [(q1, .inr (7, [.int 0, .int 0, .int 0, .null, .null]))] H := fun k q hk => hP (_ + k) q (by rw [List.getElem?_append_right (Nat.le_add_right _ _), Nat.add_sub_cancel_left]; exact hk)
    have hDx : va_D (fun _ => True) [(q1, .inr (7, [.int 0, .int 0, .int 0, .null, .null]))] := ⟨fun i j p q hi hj _ => by
    have h1 := (List.getElem?_eq_some_iff.mp hi).1
    have h2 := (List.getElem?_eq_some_iff.mp hj).1
    simp only [List.length_cons, List.length_nil] at h1 h2
    omega, fun _ _ _ => trivial⟩
    refine nw_go (va_runIN (host := "RunJudge") (n := 0) (index := 64) (As := []) (rest := [.ref q1, .int (nI j), .ref q]) ⟨hx, hb, hml, hown, hts⟩ (n_X8 l D cA q1 H.size) ⟨va_cnB (bytes := cX8_init) (maxL := 1) (ret := none) 0 hts (xgood (xinm (List.mem_of_getElem? (i := 260) (by decide +kernel)) rfl : Cond.code yX8_init cX8_init 1 none ∈ xtb)) rfl rfl rfl (hzn.1 _ (by decide)) (ht _ (xint 9 (by decide +kernel) rfl : Cond.initialized RX8 ∈ xtb)) ⟨by decide +kernel, by decide +kernel, by decide +kernel⟩ ⟨Nat.le_of_ble_eq_true rfl, Nat.le_of_ble_eq_true rfl⟩, rfl, ht _ (xint 259 (by decide +kernel) rfl : Cond.instanceMethod yX8_init ∈ xtb)⟩
    ⟨nblind, fun U hU hW => ⟨rfl, by rw [hU], by rw [hU]; exact hPx, va_K.moved hW.alike hK, hDx⟩⟩ rfl rfl hl.1 rfl (lv_room (Nat.le_of_ble_eq_true rfl)) dX9_init_145 ⟨show 221 + 3 * j + 1 + 2 ≤ 240 by omega, show 9287 + 185 * j + 5 + 180 ≤ 10401 by omega⟩) hP hD hS hA (fun a1 H locs ha1 hP1 hD1 hS1 => ?_)
    subst ha1
    have hP := hP1
    have hD := hD1
    have hS := hS1
    refine va_astq (r := (RX8, TX8, 5)) hx hb hK hP hD hS 1 6 (((h0, .inr (8, fs)) :: (q, .inl (cA 6, 6, .inr (.inr (.inr (.inr (bR B j)))))) :: (Rs ++ bW cA shX8 B j) : va_W).length) 7 rfl rfl (by rw [List.getElem?_append_right (Nat.le_refl _), Nat.sub_self]; rfl) rfl (nj_in (show j < 6 by omega) (by omega)) dX9_init_148 (fun H locs hP hD hS => ?_)
    have hP : va_P D vwCl ((h0, .inr (8, fs)) :: (q, .inl (cA 6, 6, .inr (.inr (.inr (.inr (va_up (bR B j) (nI j).toNatClampNeg (some (a1 0)))))))) :: (Rs ++ bW cA shX8 B j ++ xW cA a1 shX8 zM)) H := hP
    have hD : va_D A ((h0, .inr (8, fs)) :: (q, .inl (cA 6, 6, .inr (.inr (.inr (.inr (va_up (bR B j) (nI j).toNatClampNeg (some (a1 0)))))))) :: (Rs ++ bW cA shX8 B j ++ xW cA a1 shX8 zM)) := hD
    rw [nI_clamp (by omega), bR_up, List.append_assoc, bW_up] at hP hD
    refine lv_iinc hx hb dX9_init_149 hl (k := 0) rfl nj_1 (by decide) rfl (fun ls hl => ?_)
    refine lv_goto (tgt := 130) hx hb dX9_init_152 rfl ?_
    rw [show 221 + 3 * j + 1 + 2 = 221 + 3 * (j + 1) by omega, show 9287 + 185 * j + 5 + 180 = 9287 + 185 * (j + 1) by omega]
    exact ih (j + 1) (bUp B j a1) H locs ls (by omega) hP hD hS hl
