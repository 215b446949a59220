theorem KT_0 : KT tp0 zM := fun d _ => by simp [CT, tp0, zM, nI]
abbrev nXc (cA : Nat → ClassId) (y : (Nat → Nat) × xM) : va_W := xW cA y.1 shC y.2
abbrev nEc (h0 : Nat) (y : (Nat → Nat) × xM) : Prop := y.1 0 = h0 ∧ RepC (x0 7 7 2 tp0) y.2
theorem perm_9 (cA : Nat → ClassId) (h0 r0 l0 qs qt qn : Nat) (yR yL : Nat × (Nat → Nat → Nat)) (aG aF aL aE : Nat → Nat) (BS BT : Nat → Nat → Nat) : ((h0, .inr (8, [.ref (aG 0), .ref (aF 0), .ref r0, .ref l0, .ref (aL 0), .ref (aE 0), .ref qs, .ref qt, .ref qn, .int 0, .int 0, .int 0, .int 0, .int 0, .int 0])) :: (((qt, .inl (cA 6, 6, .inr (.inr (.inr (.inr (bR BT 6)))))) :: (((qs, .inl (cA 5, 4, .inr (.inr (.inr (.inr (bR BS 4)))))) :: ((xW cA aG shX1 zM ++ xW cA aF shX6 zM ++ nR5 cA r0 16 yR ++ nR5 cA l0 1 yL ++ xW cA aL shX3 zM ++ xW cA aE shX2 zM) ++ bW cA shX7 BS 4)) ++ bW cA shX8 BT 6)) ++ [(qn, .inl (cA 0, 4, .inl (fun _ => 0)))]) : va_W).Perm (wC0 cA h0 r0 yR.1 l0 yL.1 qs qt qn aG aF aL aE yR.2 yL.2 BS BT) := by
  have h := (perm_C0 (α := Nat × va_E) [(h0, .inr (8, [.ref (aG 0), .ref (aF 0), .ref r0, .ref l0, .ref (aL 0), .ref (aE 0), .ref qs, .ref qt, .ref qn, .int 0, .int 0, .int 0, .int 0, .int 0, .int 0]))] [(qt, .inl (cA 6, 6, .inr (.inr (.inr (.inr (bR BT 6))))))] [(qs, .inl (cA 5, 4, .inr (.inr (.inr (.inr (bR BS 4))))))] (xW cA aG shX1 zM) (xW cA aF shX6 zM) [(r0, .inr (4, [.ref yR.1])), (yR.1, .inl (cA 4, 16, .inr (.inr (.inr (.inr (bR yR.2 16))))))] (bW cA shX6 yR.2 16) [(l0, .inr (4, [.ref yL.1])), (yL.1, .inl (cA 4, 1, .inr (.inr (.inr (.inr (bR yL.2 1))))))] (bW cA shX6 yL.2 1) (xW cA aL shX3 zM) (xW cA aE shX2 zM) (bW cA shX7 BS 4) (bW cA shX8 BT 6) [(qn, .inl (cA 0, 4, .inl (fun _ => 0)))])
  simp only [List.cons_append, List.nil_append] at h
  simp only [nR5, wC0, List.cons_append, List.nil_append]
  exact h
set_option maxHeartbeats 1000000 in
set_option maxRecDepth 100000 in
theorem n_X9 (l : Launch) (D : va_G) (cA : Nat → ClassId) (h0 sz : Nat) : Met l yX9_init (xws mX9_init) { frames := 4, cells := 240, slots := 10401, locals := 100 } (va_Pc [.ref h0] (fun U => nPn D cA (h0, .inr (8, [.null, .null, .null, .null, .null, .null, .null, .null, .null, .int 0, .int 0, .int 0, .int 0, .int 0, .int 0])) sz U ∧ xZ (va_A [(h0, .inr (8, [.null, .null, .null, .null, .null, .null, .null, .null, .null, .int 0, .int 0, .int 0, .int 0, .int 0, .int 0]))] sz) U)) (nQw D (nXc cA) (nEc h0) (va_A [(h0, .inr (8, [.null, .null, .null, .null, .null, .null, .null, .null, .null, .int 0, .int 0, .int 0, .int 0, .int 0, .int 0]))] sz)) 240 10401 (va_A [(h0, .inr (8, [.null, .null, .null, .null, .null, .null, .null, .null, .null, .int 0, .int 0, .int 0, .int 0, .int 0, .int 0]))] sz) := by
  refine xOfW (cc := cX9_init) (maxL := 2) (ret := none) (plainFor_of_name (by decide +kernel)) rfl ?_
  intro p e s m args below meth c s₁ B hml hv
  obtain ⟨rfl, ⟨⟨hsz, hP, hK, hD0⟩, hzn⟩, hz⟩ := hv
  have hx := B.exec
  have hb := B.bytes
  have hr := B.returns
  have hts := atoms_spec (ws := xws mX9_init) B.pre
  have hown : s.vm.findClass RX9 = some m.cls := findClass_of_methodNamed B.named
  have hlocks := B.notSynchronized
  have hin : meth.name = "<init>" := (name_of_methodNamed B.named B.method).1
  have ht : ∀ w ∈ xtb, w.before ([.ref h0] : List Value).toArray s = true := fun w h => hts w (List.mem_cons_of_mem _ h)
  subst hsz
  have hD := hD0.self (sz := s.heap.size)
  generalize hAe : va_A [(h0, .inr (8, [.null, .null, .null, .null, .null, .null, .null, .null, .null, .int 0, .int 0, .int 0, .int 0, .int 0, .int 0]))] s.heap.size = A at hD hz ⊢
  have hA : ∀ q : Nat, s.heap.size ≤ q → A q := fun q h => by rw [← hAe]; exact Or.inr h
  have hS : va_S A s.heap s.heap [] := va_S.rf
  have hl := lv_entry ([.ref h0]) (n := 2) (Nat.le_of_ble_eq_true rfl)
  rw [lg_entry_eq]
  generalize (lg_sl ([.ref h0]) ++ List.replicate (2 - (lg_sl ([.ref h0])).length) Slot.unset).toArray = ls at hl ⊢
  have hl : lv_has ls 2 [(0, .ref h0)] := hl
  refine lv_aload_n hx hb dX9_init_0 rfl (lv_at hl 0 rfl) ?_
  refine W.objInit hx hb hown (ht _ (xint 25 (by decide +kernel) rfl : Cond.methodLink RX9 1 Lib.objectInit ∈ xtb)) (ht _ kOi) (ht _ kOc) rfl (by rw [hml]; exact hl.1) rfl dX9_init_1 (Nat.le_of_ble_eq_true rfl) (Nat.le_of_ble_eq_true rfl) ?_
  refine W.eq (g2 := F0 m 4 ls []) rfl ?_
  refine lv_aload_n hx hb dX9_init_4 rfl (lv_at hl 0 rfl) ?_
  refine va_new (ci := 0) (fs := [.int 0, .int 0, .int 0, .int 0, .int 0, .int 0, .null, .null, .null, .null, .null, .null, .null]) (C := RX1) (T := TX1) (N := 13) hx hb hts (fun w h => List.mem_cons_of_mem _ (iwX1 w h)) tyX1 tyX1_ok hown (ht _ (xint 28 (by decide +kernel) rfl : Cond.classLink RX9 7 RX1 ∈ xtb)) (ht _ (xint 29 (by decide +kernel) rfl : Cond.instantiable RX1 13 ∈ xtb)) (ht _ (xint 2 (by decide +kernel) rfl : Cond.initialized RX1 ∈ xtb)) hK hP hD hS hA rfl (fun j hj => by rcases (show j = 0 ∨ j = 1 ∨ j = 2 ∨ j = 3 ∨ j = 4 ∨ j = 5 ∨ j = 6 ∨ j = 7 ∨ j = 8 ∨ j = 9 ∨ j = 10 ∨ j = 11 ∨ j = 12 by omega) with rfl | rfl | rfl | rfl | rfl | rfl | rfl | rfl | rfl | rfl | rfl | rfl | rfl <;> rfl) (Nat.le_of_ble_eq_true rfl) (Nat.le_of_ble_eq_true rfl) dX9_init_5 (fun g0 H hP hD hS => ?_)
  refine lv_dup hx hb dX9_init_8 rfl ?_
  have hPx : va_P D vwCl [(g0, .inr (0, [.int 0, .int 0, .int 0, .int 0, .int 0, .int 0, .null, .null, .null, .null, .null, .null, .null]))] H := fun k q hk => hP (_ + k) q (by rw [List.getElem?_append_right (Nat.le_add_right _ _), Nat.add_sub_cancel_left]; exact hk)
  have hDx : va_D (fun _ => True) [(g0, .inr (0, [.int 0, .int 0, .int 0, .int 0, .int 0, .int 0, .null, .null, .null, .null, .null, .null, .null]))] := ⟨fun i j p q hi hj _ => by
    have h1 := (List.getElem?_eq_some_iff.mp hi).1
    have h2 := (List.getElem?_eq_some_iff.mp hj).1
    simp only [List.length_cons, List.length_nil] at h1 h2
    omega, fun _ _ _ => trivial⟩
  refine nw_go (va_runIN (host := "RunJudge") (n := 0) (index := 9) (As := []) (rest := [.ref g0, .ref h0]) ⟨hx, hb, hml, hown, hts⟩ (n_X1 l D cA g0 H.size) ⟨va_cnB (bytes := cX1_init) (maxL := 1) (ret := none) 0 hts (xgood (xinm (List.mem_of_getElem? (i := 32) (by decide +kernel)) rfl : Cond.code yX1_init cX1_init 1 none ∈ xtb)) rfl rfl rfl (hzn.1 _ (by decide)) (ht _ (xint 2 (by decide +kernel) rfl : Cond.initialized RX1 ∈ xtb)) ⟨by decide +kernel, by decide +kernel, by decide +kernel⟩ ⟨Nat.le_of_ble_eq_true rfl, Nat.le_of_ble_eq_true rfl⟩, rfl, ht _ (xint 31 (by decide +kernel) rfl : Cond.instanceMethod yX1_init ∈ xtb)⟩
    ⟨nblind, fun U hU hW => ⟨rfl, by rw [hU], by rw [hU]; exact hPx, va_K.moved hW.alike hK, hDx⟩⟩ rfl rfl hl.1 rfl (lv_room (Nat.le_of_ble_eq_true rfl)) dX9_init_9 ⟨Nat.le_of_ble_eq_true rfl, Nat.le_of_ble_eq_true rfl⟩) hP hD hS hA (fun aG H locs haG hP1 hD1 hS1 => ?_)
  subst haG
  have hP := hP1
  have hD := hD1
  have hS := hS1
  refine va_putF (ci := 8) (v := .ref (aG 0)) (ty := (.object "RunJudge$Ground")) (C := RX9) (T := TX9) (N := 15) hx hb hts (fun w h => List.mem_cons_of_mem _ (iwX9 w h)) tyX9 tyX9_ok nmX9 hown hK hP hD hS 0 rfl rfl 0 (by decide) (ht _ (xint 347 (by decide +kernel) rfl : Cond.fieldLink RX9 10 "RunJudge" "ground" "LRunJudge$Ground;" ∈ xtb)) (fun _ h9 => h9) rfl hin rfl (by decide +kernel) rfl rfl (Nat.le_of_ble_eq_true rfl) dX9_init_12 (fun H locs hP hD hS => ?_)
  have hP : va_P D vwCl ((h0, .inr (8, [.ref (aG 0), .null, .null, .null, .null, .null, .null, .null, .null, .int 0, .int 0, .int 0, .int 0, .int 0, .int 0])) :: (xW cA aG shX1 zM)) H := hP
  have hD : va_D A ((h0, .inr (8, [.ref (aG 0), .null, .null, .null, .null, .null, .null, .null, .null, .int 0, .int 0, .int 0, .int 0, .int 0, .int 0])) :: (xW cA aG shX1 zM)) := hD
  refine lv_aload_n hx hb dX9_init_15 rfl (lv_at hl 0 rfl) ?_
  refine va_new (ci := 5) (fs := [.null, .null, .null, .null, .null, .null, .null, .null, .null, .null]) (C := RX6) (T := TX6) (N := 10) hx hb hts (fun w h => List.mem_cons_of_mem _ (iwX6 w h)) tyX6 tyX6_ok hown (ht _ (xint 96 (by decide +kernel) rfl : Cond.classLink RX9 16 RX6 ∈ xtb)) (ht _ (xint 97 (by decide +kernel) rfl : Cond.instantiable RX6 10 ∈ xtb)) (ht _ (xint 3 (by decide +kernel) rfl : Cond.initialized RX6 ∈ xtb)) hK hP hD hS hA rfl (fun j hj => by rcases (show j = 0 ∨ j = 1 ∨ j = 2 ∨ j = 3 ∨ j = 4 ∨ j = 5 ∨ j = 6 ∨ j = 7 ∨ j = 8 ∨ j = 9 by omega) with rfl | rfl | rfl | rfl | rfl | rfl | rfl | rfl | rfl | rfl <;> rfl) (Nat.le_of_ble_eq_true rfl) (Nat.le_of_ble_eq_true rfl) dX9_init_16 (fun f0 H hP hD hS => ?_)
  refine lv_dup hx hb dX9_init_19 rfl ?_
  refine lv_aload_n hx hb dX9_init_20 rfl (lv_at hl 0 rfl) ?_
  refine va_get (ci := 8) (v := .ref (aG 0)) (C := RX9) (T := TX9) (N := 15) hx hb hts (fun w h => List.mem_cons_of_mem _ (iwX9 w h)) hown hK hP 0 rfl rfl 0 (by decide) (ht _ (xint 347 (by decide +kernel) rfl : Cond.fieldLink RX9 10 "RunJudge" "ground" "LRunJudge$Ground;" ∈ xtb)) (fun _ h9 => h9) rfl dX9_init_21 ?_
  have hPx : va_P D vwCl [(f0, .inr (5, [.null, .null, .null, .null, .null, .null, .null, .null, .null, .null]))] H := fun k q hk => hP (_ + k) q (by rw [List.getElem?_append_right (Nat.le_add_right _ _), Nat.add_sub_cancel_left]; exact hk)
  have hDx : va_D (fun _ => True) [(f0, .inr (5, [.null, .null, .null, .null, .null, .null, .null, .null, .null, .null]))] := ⟨fun i j p q hi hj _ => by
    have h1 := (List.getElem?_eq_some_iff.mp hi).1
    have h2 := (List.getElem?_eq_some_iff.mp hj).1
    simp only [List.length_cons, List.length_nil] at h1 h2
    omega, fun _ _ _ => trivial⟩
  refine nw_go (va_runI (n := 1) (index := 18) (As := [.ref (aG 0)]) (rest := [.ref f0, .ref h0]) ⟨hx, hb, hml, hown, hts⟩ (n_X6 l D cA f0 (aG 0) H.size) ⟨callB_of (bytes := cX6_init) (maxL := 2) (ret := none) 1 hts (xgood (xinm (List.mem_of_getElem? (i := 100) (by decide +kernel)) rfl : Cond.code yX6_init cX6_init 2 none ∈ xtb)) rfl rfl rfl (ht _ (xint 3 (by decide +kernel) rfl : Cond.initialized RX6 ∈ xtb)) (ht _ (xint 98 (by decide +kernel) rfl : Cond.methodLink RX9 18 yX6_init ∈ xtb)) ⟨by decide +kernel, by decide +kernel, by decide +kernel⟩ ⟨Nat.le_of_ble_eq_true rfl, Nat.le_of_ble_eq_true rfl⟩, rfl, ht _ (xint 99 (by decide +kernel) rfl : Cond.instanceMethod yX6_init ∈ xtb)⟩
    ⟨nblind, fun U hU hW => ⟨rfl, by rw [hU], by rw [hU]; exact hPx, va_K.moved hW.alike hK, hDx⟩⟩ rfl rfl hl.1 rfl (lv_room (Nat.le_of_ble_eq_true rfl)) dX9_init_24 ⟨Nat.le_of_ble_eq_true rfl, Nat.le_of_ble_eq_true rfl⟩) hP hD hS hA (fun aF H locs haF hP1 hD1 hS1 => ?_)
  obtain ⟨eF, gF⟩ := haF
  subst eF
  have hP := hP1
  have hD := hD1
  have hS := hS1
  refine va_putF (ci := 8) (v := .ref (aF 0)) (ty := (.object "RunJudge$State")) (C := RX9) (T := TX9) (N := 15) hx hb hts (fun w h => List.mem_cons_of_mem _ (iwX9 w h)) tyX9 tyX9_ok nmX9 hown hK hP hD hS 0 rfl rfl 1 (by decide) (ht _ (xint 348 (by decide +kernel) rfl : Cond.fieldLink RX9 21 "RunJudge" "first" "LRunJudge$State;" ∈ xtb)) (fun _ h9 => h9) rfl hin rfl (by decide +kernel) rfl rfl (Nat.le_of_ble_eq_true rfl) dX9_init_27 (fun H locs hP hD hS => ?_)
  have hP : va_P D vwCl ((h0, .inr (8, [.ref (aG 0), .ref (aF 0), .null, .null, .null, .null, .null, .null, .null, .int 0, .int 0, .int 0, .int 0, .int 0, .int 0])) :: (xW cA aG shX1 zM ++ xW cA aF shX6 zM)) H := hP
  have hD : va_D A ((h0, .inr (8, [.ref (aG 0), .ref (aF 0), .null, .null, .null, .null, .null, .null, .null, .int 0, .int 0, .int 0, .int 0, .int 0, .int 0])) :: (xW cA aG shX1 zM ++ xW cA aF shX6 zM)) := hD
  refine lv_aload_n hx hb dX9_init_30 rfl (lv_at hl 0 rfl) ?_
  refine va_new (ci := 4) (fs := [.null]) (C := RX5) (T := TX5) (N := 1) hx hb hts (fun w h => List.mem_cons_of_mem _ (iwX5 w h)) tyX5 tyX5_ok hown (ht _ (xint 143 (by decide +kernel) rfl : Cond.classLink RX9 25 RX5 ∈ xtb)) (ht _ (xint 144 (by decide +kernel) rfl : Cond.instantiable RX5 1 ∈ xtb)) (ht _ (xint 4 (by decide +kernel) rfl : Cond.initialized RX5 ∈ xtb)) hK hP hD hS hA rfl (fun j hj => by rcases (show j = 0 by omega) with rfl <;> rfl) (Nat.le_of_ble_eq_true rfl) (Nat.le_of_ble_eq_true rfl) dX9_init_31 (fun r0 H hP hD hS => ?_)
  refine lv_dup hx hb dX9_init_34 rfl ?_
  refine lv_bipush (v := nI 16) hx hb dX9_init_35 rfl ?_
  refine lv_aload_n hx hb dX9_init_37 rfl (lv_at hl 0 rfl) ?_
  refine va_get (ci := 8) (v := .ref (aG 0)) (C := RX9) (T := TX9) (N := 15) hx hb hts (fun w h => List.mem_cons_of_mem _ (iwX9 w h)) hown hK hP 0 rfl rfl 0 (by decide) (ht _ (xint 347 (by decide +kernel) rfl : Cond.fieldLink RX9 10 "RunJudge" "ground" "LRunJudge$Ground;" ∈ xtb)) (fun _ h9 => h9) rfl dX9_init_38 ?_
  have hPx : va_P D vwCl [(r0, .inr (4, [.null]))] H := fun k q hk => hP (_ + k) q (by rw [List.getElem?_append_right (Nat.le_add_right _ _), Nat.add_sub_cancel_left]; exact hk)
  have hDx : va_D (fun _ => True) [(r0, .inr (4, [.null]))] := ⟨fun i j p q hi hj _ => by
    have h1 := (List.getElem?_eq_some_iff.mp hi).1
    have h2 := (List.getElem?_eq_some_iff.mp hj).1
    simp only [List.length_cons, List.length_nil] at h1 h2
    omega, fun _ _ _ => trivial⟩
  refine nw_goW (va_runI (n := 2) (index := 27) (As := [.int (nI 16), .ref (aG 0)]) (rest := [.ref r0, .ref h0]) ⟨hx, hb, hml, hown, hts⟩ (n_X5 l D cA 16 (by decide) r0 (aG 0) H.size) ⟨callB_of (bytes := cX5_init) (maxL := 4) (ret := none) 2 hts (xgood (xinm (List.mem_of_getElem? (i := 147) (by decide +kernel)) rfl : Cond.code yX5_init cX5_init 4 none ∈ xtb)) rfl rfl rfl (ht _ (xint 4 (by decide +kernel) rfl : Cond.initialized RX5 ∈ xtb)) (ht _ (xint 145 (by decide +kernel) rfl : Cond.methodLink RX9 27 yX5_init ∈ xtb)) ⟨by decide +kernel, by decide +kernel, by decide +kernel⟩ ⟨Nat.le_of_ble_eq_true rfl, Nat.le_of_ble_eq_true rfl⟩, rfl, ht _ (xint 146 (by decide +kernel) rfl : Cond.instanceMethod yX5_init ∈ xtb)⟩
    ⟨nblindN, fun U hU hW => ⟨rfl, ⟨by rw [hU], by rw [hU]; exact hPx, va_K.moved hW.alike hK, hDx⟩, xZn_to hW hzn⟩⟩ rfl rfl hl.1 rfl (lv_room (Nat.le_of_ble_eq_true rfl)) dX9_init_41 ⟨Nat.le_of_ble_eq_true rfl, Nat.le_of_ble_eq_true rfl⟩) hP hD hS hA (fun yR H locs hyR hP1 hD1 hS1 => ?_)
  have hP := hP1
  have hD := hD1
  have hS := hS1
  refine va_putF (ci := 8) (v := .ref r0) (ty := (.object "RunJudge$Ring")) (C := RX9) (T := TX9) (N := 15) hx hb hts (fun w h => List.mem_cons_of_mem _ (iwX9 w h)) tyX9 tyX9_ok nmX9 hown hK hP hD hS 0 rfl rfl 2 (by decide) (ht _ (xint 349 (by decide +kernel) rfl : Cond.fieldLink RX9 30 "RunJudge" "ring" "LRunJudge$Ring;" ∈ xtb)) (fun _ h9 => h9) rfl hin rfl (by decide +kernel) rfl rfl (Nat.le_of_ble_eq_true rfl) dX9_init_44 (fun H locs hP hD hS => ?_)
  have hP : va_P D vwCl ((h0, .inr (8, [.ref (aG 0), .ref (aF 0), .ref r0, .null, .null, .null, .null, .null, .null, .int 0, .int 0, .int 0, .int 0, .int 0, .int 0])) :: (xW cA aG shX1 zM ++ xW cA aF shX6 zM ++ nR5 cA r0 16 yR)) H := hP
  have hD : va_D A ((h0, .inr (8, [.ref (aG 0), .ref (aF 0), .ref r0, .null, .null, .null, .null, .null, .null, .int 0, .int 0, .int 0, .int 0, .int 0, .int 0])) :: (xW cA aG shX1 zM ++ xW cA aF shX6 zM ++ nR5 cA r0 16 yR)) := hD
  refine lv_aload_n hx hb dX9_init_47 rfl (lv_at hl 0 rfl) ?_
  refine va_new (ci := 4) (fs := [.null]) (C := RX5) (T := TX5) (N := 1) hx hb hts (fun w h => List.mem_cons_of_mem _ (iwX5 w h)) tyX5 tyX5_ok hown (ht _ (xint 143 (by decide +kernel) rfl : Cond.classLink RX9 25 RX5 ∈ xtb)) (ht _ (xint 144 (by decide +kernel) rfl : Cond.instantiable RX5 1 ∈ xtb)) (ht _ (xint 4 (by decide +kernel) rfl : Cond.initialized RX5 ∈ xtb)) hK hP hD hS hA rfl (fun j hj => by rcases (show j = 0 by omega) with rfl <;> rfl) (Nat.le_of_ble_eq_true rfl) (Nat.le_of_ble_eq_true rfl) dX9_init_48 (fun l0 H hP hD hS => ?_)
  refine lv_dup hx hb dX9_init_51 rfl ?_
  refine lv_iconst (v := nI 1) hx hb dX9_init_52 rfl ?_
  refine lv_aload_n hx hb dX9_init_53 rfl (lv_at hl 0 rfl) ?_
  refine va_get (ci := 8) (v := .ref (aG 0)) (C := RX9) (T := TX9) (N := 15) hx hb hts (fun w h => List.mem_cons_of_mem _ (iwX9 w h)) hown hK hP 0 rfl rfl 0 (by decide) (ht _ (xint 347 (by decide +kernel) rfl : Cond.fieldLink RX9 10 "RunJudge" "ground" "LRunJudge$Ground;" ∈ xtb)) (fun _ h9 => h9) rfl dX9_init_54 ?_
  have hPx : va_P D vwCl [(l0, .inr (4, [.null]))] H := fun k q hk => hP (_ + k) q (by rw [List.getElem?_append_right (Nat.le_add_right _ _), Nat.add_sub_cancel_left]; exact hk)
  have hDx : va_D (fun _ => True) [(l0, .inr (4, [.null]))] := ⟨fun i j p q hi hj _ => by
    have h1 := (List.getElem?_eq_some_iff.mp hi).1
    have h2 := (List.getElem?_eq_some_iff.mp hj).1
    simp only [List.length_cons, List.length_nil] at h1 h2
    omega, fun _ _ _ => trivial⟩
  refine nw_goW (va_runI (n := 2) (index := 27) (As := [.int (nI 1), .ref (aG 0)]) (rest := [.ref l0, .ref h0]) ⟨hx, hb, hml, hown, hts⟩ (n_X5 l D cA 1 (by decide) l0 (aG 0) H.size) ⟨callB_of (bytes := cX5_init) (maxL := 4) (ret := none) 2 hts (xgood (xinm (List.mem_of_getElem? (i := 147) (by decide +kernel)) rfl : Cond.code yX5_init cX5_init 4 none ∈ xtb)) rfl rfl rfl (ht _ (xint 4 (by decide +kernel) rfl : Cond.initialized RX5 ∈ xtb)) (ht _ (xint 145 (by decide +kernel) rfl : Cond.methodLink RX9 27 yX5_init ∈ xtb)) ⟨by decide +kernel, by decide +kernel, by decide +kernel⟩ ⟨Nat.le_of_ble_eq_true rfl, Nat.le_of_ble_eq_true rfl⟩, rfl, ht _ (xint 146 (by decide +kernel) rfl : Cond.instanceMethod yX5_init ∈ xtb)⟩
    ⟨nblindN, fun U hU hW => ⟨rfl, ⟨by rw [hU], by rw [hU]; exact hPx, va_K.moved hW.alike hK, hDx⟩, xZn_to hW hzn⟩⟩ rfl rfl hl.1 rfl (lv_room (Nat.le_of_ble_eq_true rfl)) dX9_init_57 ⟨Nat.le_of_ble_eq_true rfl, Nat.le_of_ble_eq_true rfl⟩) hP hD hS hA (fun yL H locs hyL hP1 hD1 hS1 => ?_)
  have hP := hP1
  have hD := hD1
  have hS := hS1
  refine va_putF (ci := 8) (v := .ref l0) (ty := (.object "RunJudge$Ring")) (C := RX9) (T := TX9) (N := 15) hx hb hts (fun w h => List.mem_cons_of_mem _ (iwX9 w h)) tyX9 tyX9_ok nmX9 hown hK hP hD hS 0 rfl rfl 3 (by decide) (ht _ (xint 350 (by decide +kernel) rfl : Cond.fieldLink RX9 34 "RunJudge" "lone" "LRunJudge$Ring;" ∈ xtb)) (fun _ h9 => h9) rfl hin rfl (by decide +kernel) rfl rfl (Nat.le_of_ble_eq_true rfl) dX9_init_60 (fun H locs hP hD hS => ?_)
  have hP : va_P D vwCl ((h0, .inr (8, [.ref (aG 0), .ref (aF 0), .ref r0, .ref l0, .null, .null, .null, .null, .null, .int 0, .int 0, .int 0, .int 0, .int 0, .int 0])) :: (xW cA aG shX1 zM ++ xW cA aF shX6 zM ++ nR5 cA r0 16 yR ++ nR5 cA l0 1 yL)) H := hP
  have hD : va_D A ((h0, .inr (8, [.ref (aG 0), .ref (aF 0), .ref r0, .ref l0, .null, .null, .null, .null, .null, .int 0, .int 0, .int 0, .int 0, .int 0, .int 0])) :: (xW cA aG shX1 zM ++ xW cA aF shX6 zM ++ nR5 cA r0 16 yR ++ nR5 cA l0 1 yL)) := hD
  refine lv_aload_n hx hb dX9_init_63 rfl (lv_at hl 0 rfl) ?_
  refine va_new (ci := 2) (fs := [.null, .null, .null]) (C := RX3) (T := TX3) (N := 3) hx hb hts (fun w h => List.mem_cons_of_mem _ (iwX3 w h)) tyX3 tyX3_ok hown (ht _ (xint 156 (by decide +kernel) rfl : Cond.classLink RX9 37 RX3 ∈ xtb)) (ht _ (xint 157 (by decide +kernel) rfl : Cond.instantiable RX3 3 ∈ xtb)) (ht _ (xint 5 (by decide +kernel) rfl : Cond.initialized RX3 ∈ xtb)) hK hP hD hS hA rfl (fun j hj => by rcases (show j = 0 ∨ j = 1 ∨ j = 2 by omega) with rfl | rfl | rfl <;> rfl) (Nat.le_of_ble_eq_true rfl) (Nat.le_of_ble_eq_true rfl) dX9_init_64 (fun g3 H hP hD hS => ?_)
  refine lv_dup hx hb dX9_init_67 rfl ?_
  have hPx : va_P D vwCl [(g3, .inr (2, [.null, .null, .null]))] H := fun k q hk => hP (_ + k) q (by rw [List.getElem?_append_right (Nat.le_add_right _ _), Nat.add_sub_cancel_left]; exact hk)
  have hDx : va_D (fun _ => True) [(g3, .inr (2, [.null, .null, .null]))] := ⟨fun i j p q hi hj _ => by
    have h1 := (List.getElem?_eq_some_iff.mp hi).1
    have h2 := (List.getElem?_eq_some_iff.mp hj).1
    simp only [List.length_cons, List.length_nil] at h1 h2
    omega, fun _ _ _ => trivial⟩
  refine nw_go (va_runIN (host := "RunJudge") (n := 0) (index := 39) (As := []) (rest := [.ref g3, .ref h0]) ⟨hx, hb, hml, hown, hts⟩ (n_X3 l D cA g3 H.size) ⟨va_cnB (bytes := cX3_init) (maxL := 1) (ret := none) 0 hts (xgood (xinm (List.mem_of_getElem? (i := 160) (by decide +kernel)) rfl : Cond.code yX3_init cX3_init 1 none ∈ xtb)) rfl rfl rfl (hzn.1 _ (by decide)) (ht _ (xint 5 (by decide +kernel) rfl : Cond.initialized RX3 ∈ xtb)) ⟨by decide +kernel, by decide +kernel, by decide +kernel⟩ ⟨Nat.le_of_ble_eq_true rfl, Nat.le_of_ble_eq_true rfl⟩, rfl, ht _ (xint 159 (by decide +kernel) rfl : Cond.instanceMethod yX3_init ∈ xtb)⟩
    ⟨nblind, fun U hU hW => ⟨rfl, by rw [hU], by rw [hU]; exact hPx, va_K.moved hW.alike hK, hDx⟩⟩ rfl rfl hl.1 rfl (lv_room (Nat.le_of_ble_eq_true rfl)) dX9_init_68 ⟨Nat.le_of_ble_eq_true rfl, Nat.le_of_ble_eq_true rfl⟩) hP hD hS hA (fun aL H locs haL hP1 hD1 hS1 => ?_)
  subst haL
  have hP := hP1
  have hD := hD1
  have hS := hS1
  refine va_putF (ci := 8) (v := .ref (aL 0)) (ty := (.object "RunJudge$Log")) (C := RX9) (T := TX9) (N := 15) hx hb hts (fun w h => List.mem_cons_of_mem _ (iwX9 w h)) tyX9 tyX9_ok nmX9 hown hK hP hD hS 0 rfl rfl 4 (by decide) (ht _ (xint 351 (by decide +kernel) rfl : Cond.fieldLink RX9 40 "RunJudge" "log" "LRunJudge$Log;" ∈ xtb)) (fun _ h9 => h9) rfl hin rfl (by decide +kernel) rfl rfl (Nat.le_of_ble_eq_true rfl) dX9_init_71 (fun H locs hP hD hS => ?_)
  have hP : va_P D vwCl ((h0, .inr (8, [.ref (aG 0), .ref (aF 0), .ref r0, .ref l0, .ref (aL 0), .null, .null, .null, .null, .int 0, .int 0, .int 0, .int 0, .int 0, .int 0])) :: (xW cA aG shX1 zM ++ xW cA aF shX6 zM ++ nR5 cA r0 16 yR ++ nR5 cA l0 1 yL ++ xW cA aL shX3 zM)) H := hP
  have hD : va_D A ((h0, .inr (8, [.ref (aG 0), .ref (aF 0), .ref r0, .ref l0, .ref (aL 0), .null, .null, .null, .null, .int 0, .int 0, .int 0, .int 0, .int 0, .int 0])) :: (xW cA aG shX1 zM ++ xW cA aF shX6 zM ++ nR5 cA r0 16 yR ++ nR5 cA l0 1 yL ++ xW cA aL shX3 zM)) := hD
  refine lv_aload_n hx hb dX9_init_74 rfl (lv_at hl 0 rfl) ?_
  refine va_new (ci := 1) (fs := [.int 0, .int 0, .int 0, .int 0, .null, .null]) (C := RX2) (T := TX2) (N := 6) hx hb hts (fun w h => List.mem_cons_of_mem _ (iwX2 w h)) tyX2 tyX2_ok hown (ht _ (xint 173 (by decide +kernel) rfl : Cond.classLink RX9 44 RX2 ∈ xtb)) (ht _ (xint 174 (by decide +kernel) rfl : Cond.instantiable RX2 6 ∈ xtb)) (ht _ (xint 6 (by decide +kernel) rfl : Cond.initialized RX2 ∈ xtb)) hK hP hD hS hA rfl (fun j hj => by rcases (show j = 0 ∨ j = 1 ∨ j = 2 ∨ j = 3 ∨ j = 4 ∨ j = 5 by omega) with rfl | rfl | rfl | rfl | rfl | rfl <;> rfl) (Nat.le_of_ble_eq_true rfl) (Nat.le_of_ble_eq_true rfl) dX9_init_75 (fun g2 H hP hD hS => ?_)
  refine lv_dup hx hb dX9_init_78 rfl ?_
  have hPx : va_P D vwCl [(g2, .inr (1, [.int 0, .int 0, .int 0, .int 0, .null, .null]))] H := fun k q hk => hP (_ + k) q (by rw [List.getElem?_append_right (Nat.le_add_right _ _), Nat.add_sub_cancel_left]; exact hk)
  have hDx : va_D (fun _ => True) [(g2, .inr (1, [.int 0, .int 0, .int 0, .int 0, .null, .null]))] := ⟨fun i j p q hi hj _ => by
    have h1 := (List.getElem?_eq_some_iff.mp hi).1
    have h2 := (List.getElem?_eq_some_iff.mp hj).1
    simp only [List.length_cons, List.length_nil] at h1 h2
    omega, fun _ _ _ => trivial⟩
  refine nw_go (va_runIN (host := "RunJudge") (n := 0) (index := 46) (As := []) (rest := [.ref g2, .ref h0]) ⟨hx, hb, hml, hown, hts⟩ (n_X2 l D cA g2 H.size) ⟨va_cnB (bytes := cX2_init) (maxL := 1) (ret := none) 0 hts (xgood (xinm (List.mem_of_getElem? (i := 177) (by decide +kernel)) rfl : Cond.code yX2_init cX2_init 1 none ∈ xtb)) rfl rfl rfl (hzn.1 _ (by decide)) (ht _ (xint 6 (by decide +kernel) rfl : Cond.initialized RX2 ∈ xtb)) ⟨by decide +kernel, by decide +kernel, by decide +kernel⟩ ⟨Nat.le_of_ble_eq_true rfl, Nat.le_of_ble_eq_true rfl⟩, rfl, ht _ (xint 176 (by decide +kernel) rfl : Cond.instanceMethod yX2_init ∈ xtb)⟩
    ⟨nblind, fun U hU hW => ⟨rfl, by rw [hU], by rw [hU]; exact hPx, va_K.moved hW.alike hK, hDx⟩⟩ rfl rfl hl.1 rfl (lv_room (Nat.le_of_ble_eq_true rfl)) dX9_init_79 ⟨Nat.le_of_ble_eq_true rfl, Nat.le_of_ble_eq_true rfl⟩) hP hD hS hA (fun aE H locs haE hP1 hD1 hS1 => ?_)
  subst haE
  have hP := hP1
  have hD := hD1
  have hS := hS1
  refine va_putF (ci := 8) (v := .ref (aE 0)) (ty := (.object "RunJudge$Ledger")) (C := RX9) (T := TX9) (N := 15) hx hb hts (fun w h => List.mem_cons_of_mem _ (iwX9 w h)) tyX9 tyX9_ok nmX9 hown hK hP hD hS 0 rfl rfl 5 (by decide) (ht _ (xint 352 (by decide +kernel) rfl : Cond.fieldLink RX9 47 "RunJudge" "ledger" "LRunJudge$Ledger;" ∈ xtb)) (fun _ h9 => h9) rfl hin rfl (by decide +kernel) rfl rfl (Nat.le_of_ble_eq_true rfl) dX9_init_82 (fun H locs hP hD hS => ?_)
  have hP : va_P D vwCl ((h0, .inr (8, [.ref (aG 0), .ref (aF 0), .ref r0, .ref l0, .ref (aL 0), .ref (aE 0), .null, .null, .null, .int 0, .int 0, .int 0, .int 0, .int 0, .int 0])) :: (xW cA aG shX1 zM ++ xW cA aF shX6 zM ++ nR5 cA r0 16 yR ++ nR5 cA l0 1 yL ++ xW cA aL shX3 zM ++ xW cA aE shX2 zM)) H := hP
  have hD : va_D A ((h0, .inr (8, [.ref (aG 0), .ref (aF 0), .ref r0, .ref l0, .ref (aL 0), .ref (aE 0), .null, .null, .null, .int 0, .int 0, .int 0, .int 0, .int 0, .int 0])) :: (xW cA aG shX1 zM ++ xW cA aF shX6 zM ++ nR5 cA r0 16 yR ++ nR5 cA l0 1 yL ++ xW cA aL shX3 zM ++ xW cA aE shX2 zM)) := hD
  obtain ⟨Rs, hRs⟩ : ∃ Rs : va_W, Rs = xW cA aG shX1 zM ++ xW cA aF shX6 zM ++ nR5 cA r0 16 yR ++ nR5 cA l0 1 yL ++ xW cA aL shX3 zM ++ xW cA aE shX2 zM := ⟨_, rfl⟩
  rw [← hRs] at hP hD
  refine lv_aload_n hx hb dX9_init_85 rfl (lv_at hl 0 rfl) ?_
  refine lv_iconst (v := nI 4) hx hb dX9_init_86 rfl ?_
  refine nw_newq 5 (N' := 4) hx hb hown (ht _ (xint 203 (by decide +kernel) rfl : Cond.classLink RX9 51 RX7 ∈ xtb)) hzn.2.2.1 hK rfl hP hD hS hA (nI_pos (by decide)) (nI_clamp (by decide)) (by decide) (Nat.le_of_ble_eq_true rfl) (Nat.le_of_ble_eq_true rfl) dX9_init_87 (fun qs H hP hD hS => ?_)
  refine va_putF (ci := 8) (v := .ref qs) (ty := (.array (.object "RunJudge$Suspect"))) (C := RX9) (T := TX9) (N := 15) hx hb hts (fun w h => List.mem_cons_of_mem _ (iwX9 w h)) tyX9 tyX9_ok nmX9 hown hK hP hD hS 0 rfl rfl 6 (by decide) (ht _ (xint 353 (by decide +kernel) rfl : Cond.fieldLink RX9 53 "RunJudge" "suspects" "[LRunJudge$Suspect;" ∈ xtb)) (fun _ h9 => h9) rfl hin rfl (by decide +kernel) rfl rfl (Nat.le_of_ble_eq_true rfl) dX9_init_90 (fun H locs hP hD hS => ?_)
  have hP : va_P D vwCl ((h0, .inr (8, [.ref (aG 0), .ref (aF 0), .ref r0, .ref l0, .ref (aL 0), .ref (aE 0), .ref qs, .null, .null, .int 0, .int 0, .int 0, .int 0, .int 0, .int 0])) :: (Rs ++ [(qs, .inl (cA 5, 4, .inr (.inr (.inr (.inr (fun _ => none))))))])) H := hP
  have hD : va_D A ((h0, .inr (8, [.ref (aG 0), .ref (aF 0), .ref r0, .ref l0, .ref (aL 0), .ref (aE 0), .ref qs, .null, .null, .int 0, .int 0, .int 0, .int 0, .int 0, .int 0])) :: (Rs ++ [(qs, .inl (cA 5, 4, .inr (.inr (.inr (.inr (fun _ => none))))))])) := hD
  refine lv_iconst (v := nI 0) hx hb dX9_init_93 rfl ?_
  refine lv_istore_n hx hb dX9_init_94 rfl hl (by decide) rfl (fun ls hl => ?_)
  have hP : va_P D vwCl ((h0, .inr (8, [.ref (aG 0), .ref (aF 0), .ref r0, .ref l0, .ref (aL 0), .ref (aE 0), .ref qs, .null, .null, .int 0, .int 0, .int 0, .int 0, .int 0, .int 0])) :: (qs, .inl (cA 5, 4, .inr (.inr (.inr (.inr (bR (fun _ _ => 0) 0)))))) :: (Rs ++ bW cA shX7 (fun _ _ => 0) 0)) H := by
    rw [bW, List.append_nil, ← bR_0]
    exact nP_perm (List.Perm.cons _ (List.perm_append_singleton _ _)) hP
  have hD : va_D A ((h0, .inr (8, [.ref (aG 0), .ref (aF 0), .ref r0, .ref l0, .ref (aL 0), .ref (aE 0), .ref qs, .null, .null, .int 0, .int 0, .int 0, .int 0, .int 0, .int 0])) :: (qs, .inl (cA 5, 4, .inr (.inr (.inr (.inr (bR (fun _ _ => 0) 0)))))) :: (Rs ++ bW cA shX7 (fun _ _ => 0) 0)) := by
    rw [bW, List.append_nil, ← bR_0]
    exact nD_perm (List.Perm.cons _ (List.perm_append_singleton _ _)) hD
  refine nl_S (fs := [.ref (aG 0), .ref (aF 0), .ref r0, .ref l0, .ref (aL 0), .ref (aE 0), .ref qs, .null, .null, .int 0, .int 0, .int 0, .int 0, .int 0, .int 0]) (Rs := Rs) (q := qs) (h0 := h0) hx hb hml hown hts hK hzn hA rfl (fun BS H locs ls hP hD hS hl => ?_) 4 0 (fun _ _ => 0) H locs ls rfl hP hD hS hl
  obtain ⟨Rt, hRt⟩ : ∃ Rt : va_W, Rt = (qs, .inl (cA 5, 4, .inr (.inr (.inr (.inr (bR BS 4)))))) :: (Rs ++ bW cA shX7 BS 4) := ⟨_, rfl⟩
  rw [← hRt] at hP hD
  refine lv_aload_n hx hb dX9_init_119 rfl (lv_at hl 1 rfl) ?_
  refine lv_bipush (v := nI 6) hx hb dX9_init_120 rfl ?_
  refine nw_newq 6 (N' := 6) hx hb hown (ht _ (xint 255 (by decide +kernel) rfl : Cond.classLink RX9 58 RX8 ∈ xtb)) hzn.2.2.2 hK rfl hP hD hS hA (nI_pos (by decide)) (nI_clamp (by decide)) (by decide) (Nat.le_of_ble_eq_true rfl) (Nat.le_of_ble_eq_true rfl) dX9_init_122 (fun qt H hP hD hS => ?_)
  refine va_putF (ci := 8) (v := .ref qt) (ty := (.array (.object "RunJudge$Tape"))) (C := RX9) (T := TX9) (N := 15) hx hb hts (fun w h => List.mem_cons_of_mem _ (iwX9 w h)) tyX9 tyX9_ok nmX9 hown hK hP hD hS 0 rfl rfl 7 (by decide) (ht _ (xint 354 (by decide +kernel) rfl : Cond.fieldLink RX9 60 "RunJudge" "tapes" "[LRunJudge$Tape;" ∈ xtb)) (fun _ h9 => h9) rfl hin rfl (by decide +kernel) rfl rfl (Nat.le_of_ble_eq_true rfl) dX9_init_125 (fun H locs hP hD hS => ?_)
  have hP : va_P D vwCl ((h0, .inr (8, [.ref (aG 0), .ref (aF 0), .ref r0, .ref l0, .ref (aL 0), .ref (aE 0), .ref qs, .ref qt, .null, .int 0, .int 0, .int 0, .int 0, .int 0, .int 0])) :: (Rt ++ [(qt, .inl (cA 6, 6, .inr (.inr (.inr (.inr (fun _ => none))))))])) H := hP
  have hD : va_D A ((h0, .inr (8, [.ref (aG 0), .ref (aF 0), .ref r0, .ref l0, .ref (aL 0), .ref (aE 0), .ref qs, .ref qt, .null, .int 0, .int 0, .int 0, .int 0, .int 0, .int 0])) :: (Rt ++ [(qt, .inl (cA 6, 6, .inr (.inr (.inr (.inr (fun _ => none))))))])) := hD
  refine lv_iconst (v := nI 0) hx hb dX9_init_128 rfl ?_
  refine lv_istore_n hx hb dX9_init_129 rfl hl (by decide) rfl (fun ls hl => ?_)
  have hP : va_P D vwCl ((h0, .inr (8, [.ref (aG 0), .ref (aF 0), .ref r0, .ref l0, .ref (aL 0), .ref (aE 0), .ref qs, .ref qt, .null, .int 0, .int 0, .int 0, .int 0, .int 0, .int 0])) :: (qt, .inl (cA 6, 6, .inr (.inr (.inr (.inr (bR (fun _ _ => 0) 0)))))) :: (Rt ++ bW cA shX8 (fun _ _ => 0) 0)) H := by
    rw [bW, List.append_nil, ← bR_0]
    exact nP_perm (List.Perm.cons _ (List.perm_append_singleton _ _)) hP
  have hD : va_D A ((h0, .inr (8, [.ref (aG 0), .ref (aF 0), .ref r0, .ref l0, .ref (aL 0), .ref (aE 0), .ref qs, .ref qt, .null, .int 0, .int 0, .int 0, .int 0, .int 0, .int 0])) :: (qt, .inl (cA 6, 6, .inr (.inr (.inr (.inr (bR (fun _ _ => 0) 0)))))) :: (Rt ++ bW cA shX8 (fun _ _ => 0) 0)) := by
    rw [bW, List.append_nil, ← bR_0]
    exact nD_perm (List.Perm.cons _ (List.perm_append_singleton _ _)) hD
  refine nl_T (fs := [.ref (aG 0), .ref (aF 0), .ref r0, .ref l0, .ref (aL 0), .ref (aE 0), .ref qs, .ref qt, .null, .int 0, .int 0, .int 0, .int 0, .int 0, .int 0]) (Rs := Rt) (q := qt) (h0 := h0) hx hb hml hown hts hK hzn hA rfl (fun BT H locs ls hP hD hS hl => ?_) 6 0 (fun _ _ => 0) H locs ls rfl hP hD hS hl
  refine lv_aload_n hx hb dX9_init_155 rfl (lv_at hl 1 rfl) ?_
  refine lv_iconst (v := nI 4) hx hb dX9_init_156 rfl ?_
  refine nw_newa 0 (atype := .int) (ty := .int) (a0 := (4, .inl (fun _ => 0))) hx hb (ht _ ka0) rfl hK rfl (fun _ h => h) hP hD hS hA (fun _ => rfl) (nI_pos (by decide)) (nI_clamp (by decide)) (by decide) (Nat.le_of_ble_eq_true rfl) (Nat.le_of_ble_eq_true rfl) dX9_init_157 (fun qn H hP hD hS => ?_)
  refine va_putF (ci := 8) (v := .ref qn) (ty := (.array .int)) (C := RX9) (T := TX9) (N := 15) hx hb hts (fun w h => List.mem_cons_of_mem _ (iwX9 w h)) tyX9 tyX9_ok nmX9 hown hK hP hD hS 0 rfl rfl 8 (by decide) (ht _ (xint 355 (by decide +kernel) rfl : Cond.fieldLink RX9 65 "RunJudge" "nextSeq" "[I" ∈ xtb)) (fun _ h9 => h9) rfl hin rfl (by decide +kernel) rfl rfl (Nat.le_of_ble_eq_true rfl) dX9_init_159 (fun H locs hP hD hS => ?_)
  have hP : va_P D vwCl ((h0, .inr (8, [.ref (aG 0), .ref (aF 0), .ref r0, .ref l0, .ref (aL 0), .ref (aE 0), .ref qs, .ref qt, .ref qn, .int 0, .int 0, .int 0, .int 0, .int 0, .int 0])) :: (((qt, .inl (cA 6, 6, .inr (.inr (.inr (.inr (bR BT 6)))))) :: (Rt ++ bW cA shX8 BT 6)) ++ [(qn, .inl (cA 0, 4, .inl (fun _ => 0)))])) H := hP
  have hD : va_D A ((h0, .inr (8, [.ref (aG 0), .ref (aF 0), .ref r0, .ref l0, .ref (aL 0), .ref (aE 0), .ref qs, .ref qt, .ref qn, .int 0, .int 0, .int 0, .int 0, .int 0, .int 0])) :: (((qt, .inl (cA 6, 6, .inr (.inr (.inr (.inr (bR BT 6)))))) :: (Rt ++ bW cA shX8 BT 6)) ++ [(qn, .inl (cA 0, 4, .inl (fun _ => 0)))])) := hD
  subst hRt
  subst hRs
  have hpm := perm_9 cA h0 r0 l0 qs qt qn yR yL aG aF aL aE BS BT
  have hP := nP_perm hpm hP
  have hD := nD_perm hpm hD
  have h0e : adC0 h0 r0 yR.1 l0 yL.1 qs qt qn aG aF aL aE yR.2 yL.2 BS BT 0 = h0 := rfl
  rw [← xW_C0 cA hyR hyL gF] at hP hD
  generalize adC0 h0 r0 yR.1 l0 yL.1 qs qt qn aG aF aL aE yR.2 yL.2 BS BT = ad at hP hD h0e
  have hF := xfree hD hS hA
  have hM := xMet (Z := mX9_startAnew) (As := [.ref 0, .int (nI 7), .int (nI 7), .int (nI 2)]) zX9_startAnew.1 rfl (Nat.le_of_ble_eq_true rfl) (c_new (a := 7) (b := 7) (P := 2) (Q := fun r M' => r = none ∧ RepC (x0 7 7 2 tp0) M') (by decide) (by decide) (by decide) (by decide) (by decide) (by decide) KT_0 (fun M2 h => ⟨rfl, h⟩)) l D cA ad H.size
  have hrv := va_recv hK hP (q := (RX9, TX9, 15)) rfl (xW_at (cA := cA) (ad := ad) (M := zM) cc0)
  refine lv_aload_n hx hb dX9_init_162 rfl (lv_at hl 1 rfl) ?_
  refine lv_bipush (v := nI 7) hx hb dX9_init_163 rfl ?_
  refine lv_bipush (v := nI 7) hx hb dX9_init_165 rfl ?_
  refine lv_iconst (v := nI 2) hx hb dX9_init_167 rfl ?_
  refine xgoK (va_runV (C := RX9) (b := ad 0) (n := 3) (index := 69) (As := [.int (nI 7), .int (nI 7), .int (nI 2)]) (rest := []) ⟨hx, hb, hml, hown, hts⟩ hM ⟨callB_of (bytes := cX9_startAnew) (maxL := 5) (ret := none) 3 hts (xgood zX9_startAnew.2.2.1) rfl rfl rfl (ht _ zX9_startAnew.2.2.2.1) (ht _ mlX9_69) zX9_startAnew.2.1 ⟨Nat.le_of_ble_eq_true rfl, Nat.le_of_ble_eq_true rfl⟩, ht _ zX9_startAnew.2.2.2.2.1, ht _ zX9_startAnew.2.2.2.2.2⟩
    ⟨xblind, hrv, fun U hU hW => ⟨rfl, by rw [hU], by rw [hU]; exact hP, va_K.moved hW.alike hK, hD.weaken (fun _ _ _ _ => trivial), xZ_to (locs := locs) hz hW (by rw [hU]; exact hS) hF⟩⟩ rfl rfl hl.1 (by rw [h0e]; rfl) (lv_room (Nat.le_of_ble_eq_true rfl)) dX9_init_168 ⟨Nat.le_of_ble_eq_true rfl, Nat.le_of_ble_eq_true rfl⟩) hS hF (fun r M' H1 locs1 hq hP1 hS1 hkp => ?_)
  obtain ⟨rfl, hR⟩ := hq
  exact W.vret hx hb hr (fun t ht hW => ⟨⟨(ad, M'), rfl, ⟨h0e, hR⟩, by rw [ht]; exact hP1, xW_Dm hD⟩, hS1.F ht⟩) hS1.2.2 dX9_init_171 hlocks
