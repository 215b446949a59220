def shX7 : List xSh := [.inl (6, [some 1, some 3, none, none, none, none]), .inl (3, [some 2, none, none, none]), .inr (0, 65, xno), .inl (3, [some 4, none, none, none]), .inr (0, 65, xno)]
abbrev mX7_init : xY := (yX7_init, cX7_init, 1, none, 2, 50)
set_option maxHeartbeats 4000000 in
set_option maxRecDepth 100000 in
theorem n_X7 (l : Launch) (D : va_G) (cA : Nat → ClassId) (h0 sz : Nat) : Met l yX7_init (xws mX7_init) { frames := 2, cells := 4, slots := 138, locals := 50 } (va_Pc [.ref h0] (nPn D cA (h0, .inr (6, [.null, .null, .int 0, .int 0, .int 0, .int 0])) sz)) (nQ D cA shX7 (fun ad => ad 0 = h0) (va_A [(h0, .inr (6, [.null, .null, .int 0, .int 0, .int 0, .int 0]))] sz)) 4 138 (va_A [(h0, .inr (6, [.null, .null, .int 0, .int 0, .int 0, .int 0]))] sz) := by
  refine xOfW (cc := cX7_init) (maxL := 1) (ret := none) (plainFor_of_name (by decide +kernel)) rfl ?_
  intro p e s m args below meth c s₁ B hml hv
  obtain ⟨rfl, ⟨hsz, hP, hK, hD0⟩, hzn⟩ := hv
  have hx := B.exec
  have hb := B.bytes
  have hr := B.returns
  have hts := atoms_spec (ws := xws mX7_init) B.pre
  have hown : s.vm.findClass RX7 = some m.cls := findClass_of_methodNamed B.named
  have hlocks := B.notSynchronized
  have hin : meth.name = "<init>" := (name_of_methodNamed B.named B.method).1
  have ht : ∀ w ∈ xtb, w.before ([.ref h0] : List Value).toArray s = true := fun w h => hts w (List.mem_cons_of_mem _ h)
  subst hsz
  have hD := hD0.self (sz := s.heap.size)
  generalize hAe : va_A [(h0, .inr (6, [.null, .null, .int 0, .int 0, .int 0, .int 0]))] s.heap.size = A at hD ⊢
  have hA : ∀ q : Nat, s.heap.size ≤ q → A q := fun q h => by rw [← hAe]; exact Or.inr h
  have hS : va_S A s.heap s.heap [] := va_S.rf
  have hl := lv_entry ([.ref h0]) (n := 1) (Nat.le_of_ble_eq_true rfl)
  rw [lg_entry_eq]
  generalize (lg_sl ([.ref h0]) ++ List.replicate (1 - (lg_sl ([.ref h0])).length) Slot.unset).toArray = ls at hl ⊢
  have hl : lv_has ls 1 [(0, .ref h0)] := hl
  refine lv_aload_n hx hb dX7_init_0 rfl (lv_at hl 0 rfl) ?_
  refine W.objInit hx hb hown (ht _ (xint 209 (by decide +kernel) rfl : Cond.methodLink RX7 3 Lib.objectInit ∈ xtb)) (ht _ kOi) (ht _ kOc) rfl (by rw [hml]; exact hl.1) rfl dX7_init_1 (Nat.le_of_ble_eq_true rfl) (Nat.le_of_ble_eq_true rfl) ?_
  refine W.eq (g2 := F0 m 4 ls []) rfl ?_
  refine lv_aload_n hx hb dX7_init_4 rfl (lv_at hl 0 rfl) ?_
  refine va_new (ci := 3) (fs := [.null, .int 0, .int 0, .int 0]) (C := RX4) (T := TX4) (N := 4) hx hb hts (fun w h => List.mem_cons_of_mem _ (iwX4 w h)) tyX4 tyX4_ok hown (ht _ (xint 210 (by decide +kernel) rfl : Cond.classLink RX7 9 RX4 ∈ xtb)) (ht _ (xint 211 (by decide +kernel) rfl : Cond.instantiable RX4 4 ∈ xtb)) (ht _ (xint 8 (by decide +kernel) rfl : Cond.initialized RX4 ∈ xtb)) hK hP hD hS hA rfl (fun j hj => by rcases (show j = 0 ∨ j = 1 ∨ j = 2 ∨ j = 3 by omega) with rfl | rfl | rfl | rfl <;> rfl) (Nat.le_of_ble_eq_true rfl) (Nat.le_of_ble_eq_true rfl) dX7_init_5 (fun q1 H hP hD hS => ?_)
  refine lv_dup hx hb dX7_init_8 rfl ?_
  have hPx : va_P D vwCl [(q1, .inr (3, [.null, .int 0, .int 0, .int 0]))] H := fun k q hk => hP (_ + k) q (by rw [List.getElem?_append_right (Nat.le_add_right _ _), Nat.add_sub_cancel_left]; exact hk)
  have hDx : va_D (fun _ => True) [(q1, .inr (3, [.null, .int 0, .int 0, .int 0]))] := ⟨fun i j p q hi hj _ => by
    have h1 := (List.getElem?_eq_some_iff.mp hi).1
    have h2 := (List.getElem?_eq_some_iff.mp hj).1
    simp only [List.length_cons, List.length_nil] at h1 h2
    omega, fun _ _ _ => trivial⟩
  refine nw_go (va_runIN (host := "RunJudge") (n := 0) (index := 11) (As := []) (rest := [.ref q1, .ref h0]) ⟨hx, hb, hml, hown, hts⟩ (n_X4 l D cA q1 H.size) ⟨va_cnB (bytes := cX4_init) (maxL := 1) (ret := none) 0 hts (xgood (xinm (List.mem_of_getElem? (i := 214) (by decide +kernel)) rfl : Cond.code yX4_init cX4_init 1 none ∈ xtb)) rfl rfl rfl (hzn.1 _ (by decide)) (ht _ (xint 8 (by decide +kernel) rfl : Cond.initialized RX4 ∈ xtb)) ⟨by decide +kernel, by decide +kernel, by decide +kernel⟩ ⟨Nat.le_of_ble_eq_true rfl, Nat.le_of_ble_eq_true rfl⟩, rfl, ht _ (xint 213 (by decide +kernel) rfl : Cond.instanceMethod yX4_init ∈ xtb)⟩
    ⟨nblind, fun U hU hW => ⟨rfl, by rw [hU], by rw [hU]; exact hPx, va_K.moved hW.alike hK, hDx⟩⟩ rfl rfl hl.1 rfl (lv_room (Nat.le_of_ble_eq_true rfl)) dX7_init_9 ⟨Nat.le_of_ble_eq_true rfl, Nat.le_of_ble_eq_true rfl⟩) hP hD hS hA (fun a1 H locs ha1 hP hD hS => ?_)
  refine va_putF (ci := 6) (v := .ref q1) (ty := (.object "RunJudge$Odds")) (C := RX7) (T := TX7) (N := 6) hx hb hts (fun w h => List.mem_cons_of_mem _ (iwX7 w h)) tyX7 tyX7_ok nmX7 hown hK hP hD hS 0 rfl rfl 0 (by decide) (ht _ (xint 232 (by decide +kernel) rfl : Cond.fieldLink RX7 12 "RunJudge$Suspect" "foreseeing" "LRunJudge$Odds;" ∈ xtb)) (fun _ h9 => h9) rfl hin rfl (by decide +kernel) rfl rfl (Nat.le_of_ble_eq_true rfl) dX7_init_12 (fun H locs hP hD hS => ?_)
  have hP : va_P D vwCl ((h0, .inr (6, [.ref q1, .null, .int 0, .int 0, .int 0, .int 0])) :: xW cA a1 shX4 zM) H := hP
  have hD : va_D A ((h0, .inr (6, [.ref q1, .null, .int 0, .int 0, .int 0, .int 0])) :: xW cA a1 shX4 zM) := hD
  refine lv_aload_n hx hb dX7_init_15 rfl (lv_at hl 0 rfl) ?_
  refine va_new (ci := 3) (fs := [.null, .int 0, .int 0, .int 0]) (C := RX4) (T := TX4) (N := 4) hx hb hts (fun w h => List.mem_cons_of_mem _ (iwX4 w h)) tyX4 tyX4_ok hown (ht _ (xint 210 (by decide +kernel) rfl : Cond.classLink RX7 9 RX4 ∈ xtb)) (ht _ (xint 211 (by decide +kernel) rfl : Cond.instantiable RX4 4 ∈ xtb)) (ht _ (xint 8 (by decide +kernel) rfl : Cond.initialized RX4 ∈ xtb)) hK hP hD hS hA rfl (fun j hj => by rcases (show j = 0 ∨ j = 1 ∨ j = 2 ∨ j = 3 by omega) with rfl | rfl | rfl | rfl <;> rfl) (Nat.le_of_ble_eq_true rfl) (Nat.le_of_ble_eq_true rfl) dX7_init_16 (fun q2 H hP hD hS => ?_)
  refine lv_dup hx hb dX7_init_19 rfl ?_
  have hPx : va_P D vwCl [(q2, .inr (3, [.null, .int 0, .int 0, .int 0]))] H := fun k q hk => hP (_ + k) q (by rw [List.getElem?_append_right (Nat.le_add_right _ _), Nat.add_sub_cancel_left]; exact hk)
  have hDx : va_D (fun _ => True) [(q2, .inr (3, [.null, .int 0, .int 0, .int 0]))] := ⟨fun i j p q hi hj _ => by
    have h1 := (List.getElem?_eq_some_iff.mp hi).1
    have h2 := (List.getElem?_eq_some_iff.mp hj).1
    simp only [List.length_cons, List.length_nil] at h1 h2
    omega, fun _ _ _ => trivial⟩
  refine nw_go (va_runIN (host := "RunJudge") (n := 0) (index := 11) (As := []) (rest := [.ref q2, .ref h0]) ⟨hx, hb, hml, hown, hts⟩ (n_X4 l D cA q2 H.size) ⟨va_cnB (bytes := cX4_init) (maxL := 1) (ret := none) 0 hts (xgood (xinm (List.mem_of_getElem? (i := 214) (by decide +kernel)) rfl : Cond.code yX4_init cX4_init 1 none ∈ xtb)) rfl rfl rfl (hzn.1 _ (by decide)) (ht _ (xint 8 (by decide +kernel) rfl : Cond.initialized RX4 ∈ xtb)) ⟨by decide +kernel, by decide +kernel, by decide +kernel⟩ ⟨Nat.le_of_ble_eq_true rfl, Nat.le_of_ble_eq_true rfl⟩, rfl, ht _ (xint 213 (by decide +kernel) rfl : Cond.instanceMethod yX4_init ∈ xtb)⟩
    ⟨nblind, fun U hU hW => ⟨rfl, by rw [hU], by rw [hU]; exact hPx, va_K.moved hW.alike hK, hDx⟩⟩ rfl rfl hl.1 rfl (lv_room (Nat.le_of_ble_eq_true rfl)) dX7_init_20 ⟨Nat.le_of_ble_eq_true rfl, Nat.le_of_ble_eq_true rfl⟩) hP hD hS hA (fun a2 H locs ha2 hP hD hS => ?_)
  refine va_putF (ci := 6) (v := .ref q2) (ty := (.object "RunJudge$Odds")) (C := RX7) (T := TX7) (N := 6) hx hb hts (fun w h => List.mem_cons_of_mem _ (iwX7 w h)) tyX7 tyX7_ok nmX7 hown hK hP hD hS 0 rfl rfl 1 (by decide) (ht _ (xint 234 (by decide +kernel) rfl : Cond.fieldLink RX7 18 "RunJudge$Suspect" "machine" "LRunJudge$Odds;" ∈ xtb)) (fun _ h9 => h9) rfl hin rfl (by decide +kernel) rfl rfl (Nat.le_of_ble_eq_true rfl) dX7_init_23 (fun H locs hP hD hS => ?_)
  obtain ⟨ad, had⟩ : ∃ ad : Nat → Nat, ad = fun i => match i with
    | 0 => h0
    | 1 => a1 0
    | 2 => a1 1
    | 3 => a2 0
    | 4 => a2 1
    | _ => 0 := ⟨_, rfl⟩
  subst ha1
  subst ha2
  have hw : (h0, .inr (6, [.ref (a1 0), .ref (a2 0), .int 0, .int 0, .int 0, .int 0])) :: (xW cA a1 shX4 zM ++ xW cA a2 shX4 zM) = xW cA ad shX7 zM := by rw [had]; rfl
  have hP : va_P D vwCl ((h0, .inr (6, [.ref (a1 0), .ref (a2 0), .int 0, .int 0, .int 0, .int 0])) :: (xW cA a1 shX4 zM ++ xW cA a2 shX4 zM)) H := hP
  have hD : va_D A ((h0, .inr (6, [.ref (a1 0), .ref (a2 0), .int 0, .int 0, .int 0, .int 0])) :: (xW cA a1 shX4 zM ++ xW cA a2 shX4 zM)) := hD
  rw [hw] at hP hD
  exact W.vret hx hb hr (fun t ht hW => ⟨⟨ad, rfl, (show ad 0 = h0 by rw [had]; rfl), by rw [ht]; exact hP, hD⟩, hS.F ht⟩) hS.2.2 dX7_init_26 hlocks
