/-! the law's cases, one call of each side and the comparison of their answers -/
abbrev lvL (b : Nat) (adC adM : Nat → Nat) (o i : Nat) : List (Nat × Value) := [(0, .ref b), (1, .ref (adC 0)), (2, .ref (adM 0)), (3, .ref o), (4, .int (nI i))]
/-- the end of a case -/
def LF (p : Program) (l : Launch) (e : Env) (s : State) (m : MethodId) (below : List Frame) (meth : Method) (c : Code) (b : Nat) (D : va_G) (cA : Nat → ClassId) (adC adM : Nat → Nat) (o : Nat) (Qf : State → Prop) (cells slots i : Nat) : Prop :=
  ∀ (X : xX) (MC MM : xM) (f : Nat → Int64) (H : Heap) (locs : List Loc) (ls : Array Slot), wX X → RepC X MC → RepM X MM → LH D cA adC adM o s MC MM f H locs → lv_has ls 8 (lvL b adC adM o i) → W p l e room_1 s m #[.ref b] below meth c H locs (cells + 1) (slots + 6) Qf (F0 m 1562 ls [])
theorem lg_cmp_self (x : Int64) : lg_cmp x x = 0 := by
  unfold lg_cmp
  simp
theorem mlL_21 : Cond.methodLink RL 21 yX9_begin ∈ xtb := xint 393 (by decide +kernel) rfl
theorem mlL_25 : Cond.methodLink RL 25 yX10_begin ∈ xtb := xint 1134 (by decide +kernel) rfl
theorem mlL_26 : Cond.methodLink RL 26 yX9_wall ∈ xtb := xint 397 (by decide +kernel) rfl
theorem mlL_30 : Cond.methodLink RL 30 yX10_wall ∈ xtb := xint 1141 (by decide +kernel) rfl
theorem mlL_31 : Cond.methodLink RL 31 yX9_door ∈ xtb := xint 413 (by decide +kernel) rfl
theorem mlL_35 : Cond.methodLink RL 35 yX10_door ∈ xtb := xint 1157 (by decide +kernel) rfl
theorem mlL_36 : Cond.methodLink RL 36 yX9_plate ∈ xtb := xint 421 (by decide +kernel) rfl
theorem mlL_39 : Cond.methodLink RL 39 yX10_plate ∈ xtb := xint 1161 (by decide +kernel) rfl
theorem mlL_40 : Cond.methodLink RL 40 yX9_place ∈ xtb := xint 433 (by decide +kernel) rfl
theorem mlL_43 : Cond.methodLink RL 43 yX10_place ∈ xtb := xint 1173 (by decide +kernel) rfl
theorem mlL_44 : Cond.methodLink RL 44 yX9_late ∈ xtb := xint 446 (by decide +kernel) rfl
theorem mlL_47 : Cond.methodLink RL 47 yX10_late ∈ xtb := xint 1181 (by decide +kernel) rfl
theorem mlL_48 : Cond.methodLink RL 48 yX9_risk ∈ xtb := xint 450 (by decide +kernel) rfl
theorem mlL_51 : Cond.methodLink RL 51 yX10_risk ∈ xtb := xint 1185 (by decide +kernel) rfl
theorem mlL_52 : Cond.methodLink RL 52 yX9_pack ∈ xtb := xint 455 (by decide +kernel) rfl
theorem mlL_56 : Cond.methodLink RL 56 yX10_pack ∈ xtb := xint 1190 (by decide +kernel) rfl
theorem mlL_59 : Cond.methodLink RL 59 yX9_feed ∈ xtb := xint 466 (by decide +kernel) rfl
theorem mlL_63 : Cond.methodLink RL 63 yX10_feed ∈ xtb := xint 1195 (by decide +kernel) rfl
theorem mlL_64 : Cond.methodLink RL 64 yX9_step ∈ xtb := xint 662 (by decide +kernel) rfl
theorem mlL_68 : Cond.methodLink RL 68 yX10_step ∈ xtb := xint 1292 (by decide +kernel) rfl
theorem mlL_69 : Cond.methodLink RL 69 yX9_body ∈ xtb := xint 730 (by decide +kernel) rfl
theorem mlL_72 : Cond.methodLink RL 72 yX10_body ∈ xtb := xint 1318 (by decide +kernel) rfl
theorem mlL_73 : Cond.methodLink RL 73 yX9_thing ∈ xtb := xint 734 (by decide +kernel) rfl
theorem mlL_76 : Cond.methodLink RL 76 yX10_thing ∈ xtb := xint 1326 (by decide +kernel) rfl
theorem mlL_77 : Cond.methodLink RL 77 yX9_open ∈ xtb := xint 738 (by decide +kernel) rfl
theorem mlL_80 : Cond.methodLink RL 80 yX10_open ∈ xtb := xint 1330 (by decide +kernel) rfl
theorem mlL_81 : Cond.methodLink RL 81 yX9_sees ∈ xtb := xint 742 (by decide +kernel) rfl
theorem mlL_84 : Cond.methodLink RL 84 yX10_sees ∈ xtb := xint 1334 (by decide +kernel) rfl
theorem mlL_85 : Cond.methodLink RL 85 yX9_told ∈ xtb := xint 747 (by decide +kernel) rfl
theorem mlL_88 : Cond.methodLink RL 88 yX10_told ∈ xtb := xint 1342 (by decide +kernel) rfl
theorem mlL_89 : Cond.methodLink RL 89 yX9_letter ∈ xtb := xint 763 (by decide +kernel) rfl
theorem mlL_92 : Cond.methodLink RL 92 yX10_letter ∈ xtb := xint 1358 (by decide +kernel) rfl
theorem mlL_93 : Cond.methodLink RL 93 yX9_digest ∈ xtb := xint 779 (by decide +kernel) rfl
theorem mlL_96 : Cond.methodLink RL 96 yX10_digest ∈ xtb := xint 1370 (by decide +kernel) rfl
theorem mlL_97 : Cond.methodLink RL 97 yX9_replay ∈ xtb := xint 787 (by decide +kernel) rfl
theorem mlL_100 : Cond.methodLink RL 100 yX10_replay ∈ xtb := xint 1378 (by decide +kernel) rfl
theorem mlL_101 : Cond.methodLink RL 101 yX9_fall ∈ xtb := xint 791 (by decide +kernel) rfl
theorem mlL_104 : Cond.methodLink RL 104 yX10_fall ∈ xtb := xint 1382 (by decide +kernel) rfl
theorem mlL_105 : Cond.methodLink RL 105 yX9_act ∈ xtb := xint 795 (by decide +kernel) rfl
theorem mlL_108 : Cond.methodLink RL 108 yX10_act ∈ xtb := xint 1386 (by decide +kernel) rfl
theorem mlL_109 : Cond.methodLink RL 109 yX9_hit ∈ xtb := xint 799 (by decide +kernel) rfl
theorem mlL_112 : Cond.methodLink RL 112 yX10_hit ∈ xtb := xint 1390 (by decide +kernel) rfl
theorem mlL_113 : Cond.methodLink RL 113 yX9_taken ∈ xtb := xint 803 (by decide +kernel) rfl
theorem mlL_116 : Cond.methodLink RL 116 yX10_taken ∈ xtb := xint 1394 (by decide +kernel) rfl
theorem mlL_117 : Cond.methodLink RL 117 yX9_back ∈ xtb := xint 811 (by decide +kernel) rfl
theorem mlL_120 : Cond.methodLink RL 120 yX10_back ∈ xtb := xint 1398 (by decide +kernel) rfl
theorem mlL_121 : Cond.methodLink RL 121 yX9_watch ∈ xtb := xint 815 (by decide +kernel) rfl
theorem mlL_124 : Cond.methodLink RL 124 yX10_watch ∈ xtb := xint 1402 (by decide +kernel) rfl
theorem mlL_125 : Cond.methodLink RL 125 yX9_fair ∈ xtb := xint 820 (by decide +kernel) rfl
theorem mlL_128 : Cond.methodLink RL 128 yX10_fair ∈ xtb := xint 1406 (by decide +kernel) rfl
theorem mlL_129 : Cond.methodLink RL 129 yX9_tape ∈ xtb := xint 828 (by decide +kernel) rfl
theorem mlL_132 : Cond.methodLink RL 132 yX10_tape ∈ xtb := xint 1410 (by decide +kernel) rfl
theorem mlL_133 : Cond.methodLink RL 133 yX9_view ∈ xtb := xint 846 (by decide +kernel) rfl
theorem mlL_136 : Cond.methodLink RL 136 yX10_view ∈ xtb := xint 1421 (by decide +kernel) rfl
theorem mlL_137 : Cond.methodLink RL 137 yX9_clear ∈ xtb := xint 855 (by decide +kernel) rfl
theorem mlL_140 : Cond.methodLink RL 140 yX10_clear ∈ xtb := xint 1425 (by decide +kernel) rfl
theorem mlL_141 : Cond.methodLink RL 141 yX9_put ∈ xtb := xint 859 (by decide +kernel) rfl
theorem mlL_145 : Cond.methodLink RL 145 yX10_put ∈ xtb := xint 1429 (by decide +kernel) rfl
theorem mlL_146 : Cond.methodLink RL 146 yL_at ∈ xtb := xint 971 (by decide +kernel) rfl
theorem mlL_151 : Cond.methodLink RL 151 yX10_at ∈ xtb := xint 1436 (by decide +kernel) rfl
theorem mlL_152 : Cond.methodLink RL 152 yX10_thrown ∈ xtb := xint 1130 (by decide +kernel) rfl
theorem mlL_155 : Cond.methodLink RL 155 yX9_copy ∈ xtb := xint 875 (by decide +kernel) rfl
theorem mlL_159 : Cond.methodLink RL 159 yX10_copy ∈ xtb := xint 1440 (by decide +kernel) rfl
theorem mlL_160 : Cond.methodLink RL 160 yX9_play ∈ xtb := xint 888 (by decide +kernel) rfl
theorem mlL_164 : Cond.methodLink RL 164 yX10_play ∈ xtb := xint 1444 (by decide +kernel) rfl
theorem mlL_165 : Cond.methodLink RL 165 yX9_kept ∈ xtb := xint 892 (by decide +kernel) rfl
theorem mlL_168 : Cond.methodLink RL 168 yX10_kept ∈ xtb := xint 1449 (by decide +kernel) rfl
theorem mlL_169 : Cond.methodLink RL 169 yX9_toss ∈ xtb := xint 896 (by decide +kernel) rfl
theorem mlL_172 : Cond.methodLink RL 172 yX10_toss ∈ xtb := xint 1453 (by decide +kernel) rfl
theorem mlL_173 : Cond.methodLink RL 173 yX9_count ∈ xtb := xint 824 (by decide +kernel) rfl
theorem mlL_176 : Cond.methodLink RL 176 yX10_count ∈ xtb := xint 1457 (by decide +kernel) rfl
theorem kcL_57 : Cond.constantLong RL 57 4294967295 ∈ xtb := xinm (by decide +kernel) rfl
set_option maxHeartbeats 4000000 in
set_option maxRecDepth 100000 in
theorem lc_begin {p : Program} {l : Launch} {e : Env} {s : State} {m : MethodId} {below : List Frame} {meth : Method} {c : Code} {b L : Nat} {xs : Nat → Int32} {D : va_G} {cA : Nat → ClassId} {adC adM : Nat → Nat} {o : Nat} {MC MM : xM} {f : Nat → Int64} {H : Heap} {locs : List Loc} {Qf : State → Prop} {cells slots i : Nat} {ls : Array Slot} {X : xX} (K : LK p l s m meth c b L xs D cA adC adM o) (hX : wX X) (hC : RepC X MC) (hM : RepM X MM) (XX : LH D cA adC adM o s MC MM f H locs) (hL : L < 2 ^ 31) (hi : i + 6 ≤ L) (hcs : cells + 1 ≤ 601024 ∧ slots + 6 ≤ 7293034) (hl : lv_has ls 8 (lvL b adC adM o i)) (fin : LF p l e s m below meth c b D cA adC adM o Qf cells slots i) : W p l e room_1 s m #[.ref b] below meth c H locs cells slots Qf (F0 m 196 ls []) := by
  obtain ⟨⟨hx, hb, hr, hml, hown, hts, hXx, hbl, hlocks, hgv⟩, hlt, hK, hZ0, hZx, hLD⟩ := id K
  have ht : ∀ w ∈ xtb, w.before #[Value.ref b] s = true := fun w h => hts w (List.mem_filter.mp h).1
  refine lv_aload_n hx hb dL_law_196 rfl (lv_at hl 1 rfl) ?_
  refine law_arg K XX.2.2.2 (i := i) (j := 1) (a0 := 0) (a4 := 4) hl rfl rfl hL (by omega) (by decide) dL_law_197 dL_law_198 dL_law_200 dL_law_201 dL_law_202 ?_
  refine law_arg K XX.2.2.2 (i := i) (j := 2) (a0 := 0) (a4 := 4) hl rfl rfl hL (by omega) (by decide) dL_law_203 dL_law_204 dL_law_206 dL_law_207 dL_law_208 ?_
  refine law_arg K XX.2.2.2 (i := i) (j := 3) (a0 := 0) (a4 := 4) hl rfl rfl hL (by omega) (by decide) dL_law_209 dL_law_210 dL_law_212 dL_law_213 dL_law_214 ?_
  refine law_C K XX [.int (xs (i + 1)), .int (xs (i + 2)), .int (xs (i + 3))] [] dL_law_215 zX9_begin mlL_21 rfl rfl rfl (fun _ => rfl) rfl (Nat.le_of_ble_eq_true rfl) (Nat.le_of_ble_eq_true rfl) hl.1 ⟨by decide, by decide⟩ ⟨by omega, by omega⟩ (cl_begin hX hC _ _ _ (fun MC2 hC H1 locs1 XX => ?_))
  refine lv_aload_n hx hb dL_law_218 rfl (lv_at hl 2 rfl) ?_
  refine law_arg K XX.2.2.2 (i := i) (j := 1) (a0 := 0) (a4 := 4) hl rfl rfl hL (by omega) (by decide) dL_law_219 dL_law_220 dL_law_222 dL_law_223 dL_law_224 ?_
  refine law_arg K XX.2.2.2 (i := i) (j := 2) (a0 := 0) (a4 := 4) hl rfl rfl hL (by omega) (by decide) dL_law_225 dL_law_226 dL_law_228 dL_law_229 dL_law_230 ?_
  refine law_arg K XX.2.2.2 (i := i) (j := 3) (a0 := 0) (a4 := 4) hl rfl rfl hL (by omega) (by decide) dL_law_231 dL_law_232 dL_law_234 dL_law_235 dL_law_236 ?_
  refine law_M K XX [.int (xs (i + 1)), .int (xs (i + 2)), .int (xs (i + 3))] [.int _] dL_law_237 zX10_begin mlL_25 rfl rfl rfl (fun _ => rfl) rfl (Nat.le_of_ble_eq_true rfl) (Nat.le_of_ble_eq_true rfl) hl.1 ⟨by decide, by decide⟩ ⟨by omega, by omega⟩ (mo_begin hX hM _ _ _ (fun MM2 hM H1 locs1 XX => ?_))
  refine lv_icmp_eq (tgt := 1562) hx hb dL_law_240 (by decide) (fun _ => ?_) (fun z => absurd rfl z)
  refine W.widen (k := cells + 1) (n := slots + 6) (by omega) (by omega) ?_
  exact fin _ _ _ _ _ _ _ (wx_begin hX _ _ _) hC hM XX hl
set_option maxHeartbeats 4000000 in
set_option maxRecDepth 100000 in
theorem lc_wall {p : Program} {l : Launch} {e : Env} {s : State} {m : MethodId} {below : List Frame} {meth : Method} {c : Code} {b L : Nat} {xs : Nat → Int32} {D : va_G} {cA : Nat → ClassId} {adC adM : Nat → Nat} {o : Nat} {MC MM : xM} {f : Nat → Int64} {H : Heap} {locs : List Loc} {Qf : State → Prop} {cells slots i : Nat} {ls : Array Slot} {X : xX} (K : LK p l s m meth c b L xs D cA adC adM o) (hX : wX X) (hC : RepC X MC) (hM : RepM X MM) (XX : LH D cA adC adM o s MC MM f H locs) (hL : L < 2 ^ 31) (hi : i + 6 ≤ L) (hcs : cells + 1 ≤ 601024 ∧ slots + 6 ≤ 7293034) (hl : lv_has ls 8 (lvL b adC adM o i)) (fin : LF p l e s m below meth c b D cA adC adM o Qf cells slots i) : W p l e room_1 s m #[.ref b] below meth c H locs cells slots Qf (F0 m 245 ls []) := by
  obtain ⟨⟨hx, hb, hr, hml, hown, hts, hXx, hbl, hlocks, hgv⟩, hlt, hK, hZ0, hZx, hLD⟩ := id K
  have ht : ∀ w ∈ xtb, w.before #[Value.ref b] s = true := fun w h => hts w (List.mem_filter.mp h).1
  refine lv_aload_n hx hb dL_law_245 rfl (lv_at hl 1 rfl) ?_
  refine law_arg K XX.2.2.2 (i := i) (j := 1) (a0 := 0) (a4 := 4) hl rfl rfl hL (by omega) (by decide) dL_law_246 dL_law_247 dL_law_249 dL_law_250 dL_law_251 ?_
  refine law_C K XX [.int (xs (i + 1))] [] dL_law_252 zX9_wall mlL_26 rfl rfl rfl (fun _ => rfl) rfl (Nat.le_of_ble_eq_true rfl) (Nat.le_of_ble_eq_true rfl) hl.1 ⟨by decide, by decide⟩ ⟨by omega, by omega⟩ (cl_wall hX hC _ (fun MC2 hC H1 locs1 XX => ?_))
  refine lv_aload_n hx hb dL_law_255 rfl (lv_at hl 2 rfl) ?_
  refine law_arg K XX.2.2.2 (i := i) (j := 1) (a0 := 0) (a4 := 4) hl rfl rfl hL (by omega) (by decide) dL_law_256 dL_law_257 dL_law_259 dL_law_260 dL_law_261 ?_
  refine law_M K XX [.int (xs (i + 1))] [.int _] dL_law_262 zX10_wall mlL_30 rfl rfl rfl (fun _ => rfl) rfl (Nat.le_of_ble_eq_true rfl) (Nat.le_of_ble_eq_true rfl) hl.1 ⟨by decide, by decide⟩ ⟨by omega, by omega⟩ (mo_wall hX hM _ (fun MM2 hM H1 locs1 XX => ?_))
  refine lv_icmp_eq (tgt := 1562) hx hb dL_law_265 (by decide) (fun _ => ?_) (fun z => absurd rfl z)
  refine W.widen (k := cells + 1) (n := slots + 6) (by omega) (by omega) ?_
  exact fin _ _ _ _ _ _ _ (wx_wall hX _) hC hM XX hl
set_option maxHeartbeats 4000000 in
set_option maxRecDepth 100000 in
theorem lc_door {p : Program} {l : Launch} {e : Env} {s : State} {m : MethodId} {below : List Frame} {meth : Method} {c : Code} {b L : Nat} {xs : Nat → Int32} {D : va_G} {cA : Nat → ClassId} {adC adM : Nat → Nat} {o : Nat} {MC MM : xM} {f : Nat → Int64} {H : Heap} {locs : List Loc} {Qf : State → Prop} {cells slots i : Nat} {ls : Array Slot} {X : xX} (K : LK p l s m meth c b L xs D cA adC adM o) (hX : wX X) (hC : RepC X MC) (hM : RepM X MM) (XX : LH D cA adC adM o s MC MM f H locs) (hL : L < 2 ^ 31) (hi : i + 6 ≤ L) (hcs : cells + 1 ≤ 601024 ∧ slots + 6 ≤ 7293034) (hl : lv_has ls 8 (lvL b adC adM o i)) (fin : LF p l e s m below meth c b D cA adC adM o Qf cells slots i) : W p l e room_1 s m #[.ref b] below meth c H locs cells slots Qf (F0 m 270 ls []) := by
  obtain ⟨⟨hx, hb, hr, hml, hown, hts, hXx, hbl, hlocks, hgv⟩, hlt, hK, hZ0, hZx, hLD⟩ := id K
  have ht : ∀ w ∈ xtb, w.before #[Value.ref b] s = true := fun w h => hts w (List.mem_filter.mp h).1
  refine lv_aload_n hx hb dL_law_270 rfl (lv_at hl 1 rfl) ?_
  refine law_arg K XX.2.2.2 (i := i) (j := 1) (a0 := 0) (a4 := 4) hl rfl rfl hL (by omega) (by decide) dL_law_271 dL_law_272 dL_law_274 dL_law_275 dL_law_276 ?_
  refine law_arg K XX.2.2.2 (i := i) (j := 2) (a0 := 0) (a4 := 4) hl rfl rfl hL (by omega) (by decide) dL_law_277 dL_law_278 dL_law_280 dL_law_281 dL_law_282 ?_
  refine law_C K XX [.int (xs (i + 1)), .int (xs (i + 2))] [] dL_law_283 zX9_door mlL_31 rfl rfl rfl (fun _ => rfl) rfl (Nat.le_of_ble_eq_true rfl) (Nat.le_of_ble_eq_true rfl) hl.1 ⟨by decide, by decide⟩ ⟨by omega, by omega⟩ (cl_door hX hC _ _ (fun MC2 hC H1 locs1 XX => ?_))
  refine lv_aload_n hx hb dL_law_286 rfl (lv_at hl 2 rfl) ?_
  refine law_arg K XX.2.2.2 (i := i) (j := 1) (a0 := 0) (a4 := 4) hl rfl rfl hL (by omega) (by decide) dL_law_287 dL_law_288 dL_law_290 dL_law_291 dL_law_292 ?_
  refine law_arg K XX.2.2.2 (i := i) (j := 2) (a0 := 0) (a4 := 4) hl rfl rfl hL (by omega) (by decide) dL_law_293 dL_law_294 dL_law_296 dL_law_297 dL_law_298 ?_
  refine law_M K XX [.int (xs (i + 1)), .int (xs (i + 2))] [.int _] dL_law_299 zX10_door mlL_35 rfl rfl rfl (fun _ => rfl) rfl (Nat.le_of_ble_eq_true rfl) (Nat.le_of_ble_eq_true rfl) hl.1 ⟨by decide, by decide⟩ ⟨by omega, by omega⟩ (mo_door hX hM _ _ (fun MM2 hM H1 locs1 XX => ?_))
  refine lv_icmp_eq (tgt := 1562) hx hb dL_law_302 (by decide) (fun _ => ?_) (fun z => absurd rfl z)
  refine W.widen (k := cells + 1) (n := slots + 6) (by omega) (by omega) ?_
  exact fin _ _ _ _ _ _ _ (wx_door hX _ _) hC hM XX hl
set_option maxHeartbeats 4000000 in
set_option maxRecDepth 100000 in
theorem lc_plate {p : Program} {l : Launch} {e : Env} {s : State} {m : MethodId} {below : List Frame} {meth : Method} {c : Code} {b L : Nat} {xs : Nat → Int32} {D : va_G} {cA : Nat → ClassId} {adC adM : Nat → Nat} {o : Nat} {MC MM : xM} {f : Nat → Int64} {H : Heap} {locs : List Loc} {Qf : State → Prop} {cells slots i : Nat} {ls : Array Slot} {X : xX} (K : LK p l s m meth c b L xs D cA adC adM o) (hX : wX X) (hC : RepC X MC) (hM : RepM X MM) (XX : LH D cA adC adM o s MC MM f H locs) (hL : L < 2 ^ 31) (hi : i + 6 ≤ L) (hcs : cells + 1 ≤ 601024 ∧ slots + 6 ≤ 7293034) (hl : lv_has ls 8 (lvL b adC adM o i)) (fin : LF p l e s m below meth c b D cA adC adM o Qf cells slots i) : W p l e room_1 s m #[.ref b] below meth c H locs cells slots Qf (F0 m 307 ls []) := by
  obtain ⟨⟨hx, hb, hr, hml, hown, hts, hXx, hbl, hlocks, hgv⟩, hlt, hK, hZ0, hZx, hLD⟩ := id K
  have ht : ∀ w ∈ xtb, w.before #[Value.ref b] s = true := fun w h => hts w (List.mem_filter.mp h).1
  refine lv_aload_n hx hb dL_law_307 rfl (lv_at hl 1 rfl) ?_
  refine law_arg K XX.2.2.2 (i := i) (j := 1) (a0 := 0) (a4 := 4) hl rfl rfl hL (by omega) (by decide) dL_law_308 dL_law_309 dL_law_311 dL_law_312 dL_law_313 ?_
  refine law_arg K XX.2.2.2 (i := i) (j := 2) (a0 := 0) (a4 := 4) hl rfl rfl hL (by omega) (by decide) dL_law_314 dL_law_315 dL_law_317 dL_law_318 dL_law_319 ?_
  refine law_C K XX [.int (xs (i + 1)), .int (xs (i + 2))] [] dL_law_320 zX9_plate mlL_36 rfl rfl rfl (fun _ => rfl) rfl (Nat.le_of_ble_eq_true rfl) (Nat.le_of_ble_eq_true rfl) hl.1 ⟨by decide, by decide⟩ ⟨by omega, by omega⟩ (cl_plate hX hC _ _ (fun MC2 hC H1 locs1 XX => ?_))
  refine lv_aload_n hx hb dL_law_323 rfl (lv_at hl 2 rfl) ?_
  refine law_arg K XX.2.2.2 (i := i) (j := 1) (a0 := 0) (a4 := 4) hl rfl rfl hL (by omega) (by decide) dL_law_324 dL_law_325 dL_law_327 dL_law_328 dL_law_329 ?_
  refine law_arg K XX.2.2.2 (i := i) (j := 2) (a0 := 0) (a4 := 4) hl rfl rfl hL (by omega) (by decide) dL_law_330 dL_law_331 dL_law_333 dL_law_334 dL_law_335 ?_
  refine law_M K XX [.int (xs (i + 1)), .int (xs (i + 2))] [.int _] dL_law_336 zX10_plate mlL_39 rfl rfl rfl (fun _ => rfl) rfl (Nat.le_of_ble_eq_true rfl) (Nat.le_of_ble_eq_true rfl) hl.1 ⟨by decide, by decide⟩ ⟨by omega, by omega⟩ (mo_plate hX hM _ _ (fun MM2 hM H1 locs1 XX => ?_))
  refine lv_icmp_eq (tgt := 1562) hx hb dL_law_339 (by decide) (fun _ => ?_) (fun z => absurd rfl z)
  refine W.widen (k := cells + 1) (n := slots + 6) (by omega) (by omega) ?_
  exact fin _ _ _ _ _ _ _ (wx_plate hX _ _) hC hM XX hl
set_option maxHeartbeats 4000000 in
set_option maxRecDepth 100000 in
theorem lc_place {p : Program} {l : Launch} {e : Env} {s : State} {m : MethodId} {below : List Frame} {meth : Method} {c : Code} {b L : Nat} {xs : Nat → Int32} {D : va_G} {cA : Nat → ClassId} {adC adM : Nat → Nat} {o : Nat} {MC MM : xM} {f : Nat → Int64} {H : Heap} {locs : List Loc} {Qf : State → Prop} {cells slots i : Nat} {ls : Array Slot} {X : xX} (K : LK p l s m meth c b L xs D cA adC adM o) (hX : wX X) (hC : RepC X MC) (hM : RepM X MM) (XX : LH D cA adC adM o s MC MM f H locs) (hL : L < 2 ^ 31) (hi : i + 6 ≤ L) (hcs : cells + 1 ≤ 601024 ∧ slots + 6 ≤ 7293034) (hl : lv_has ls 8 (lvL b adC adM o i)) (fin : LF p l e s m below meth c b D cA adC adM o Qf cells slots i) : W p l e room_1 s m #[.ref b] below meth c H locs cells slots Qf (F0 m 344 ls []) := by
  obtain ⟨⟨hx, hb, hr, hml, hown, hts, hXx, hbl, hlocks, hgv⟩, hlt, hK, hZ0, hZx, hLD⟩ := id K
  have ht : ∀ w ∈ xtb, w.before #[Value.ref b] s = true := fun w h => hts w (List.mem_filter.mp h).1
  refine lv_aload_n hx hb dL_law_344 rfl (lv_at hl 1 rfl) ?_
  refine law_arg K XX.2.2.2 (i := i) (j := 1) (a0 := 0) (a4 := 4) hl rfl rfl hL (by omega) (by decide) dL_law_345 dL_law_346 dL_law_348 dL_law_349 dL_law_350 ?_
  refine law_arg K XX.2.2.2 (i := i) (j := 2) (a0 := 0) (a4 := 4) hl rfl rfl hL (by omega) (by decide) dL_law_351 dL_law_352 dL_law_354 dL_law_355 dL_law_356 ?_
  refine law_C K XX [.int (xs (i + 1)), .int (xs (i + 2))] [] dL_law_357 zX9_place mlL_40 rfl rfl rfl (fun _ => rfl) rfl (Nat.le_of_ble_eq_true rfl) (Nat.le_of_ble_eq_true rfl) hl.1 ⟨by decide, by decide⟩ ⟨by omega, by omega⟩ (cl_place hX hC _ _ (fun MC2 hC H1 locs1 XX => ?_))
  refine lv_aload_n hx hb dL_law_360 rfl (lv_at hl 2 rfl) ?_
  refine law_arg K XX.2.2.2 (i := i) (j := 1) (a0 := 0) (a4 := 4) hl rfl rfl hL (by omega) (by decide) dL_law_361 dL_law_362 dL_law_364 dL_law_365 dL_law_366 ?_
  refine law_arg K XX.2.2.2 (i := i) (j := 2) (a0 := 0) (a4 := 4) hl rfl rfl hL (by omega) (by decide) dL_law_367 dL_law_368 dL_law_370 dL_law_371 dL_law_372 ?_
  refine law_M K XX [.int (xs (i + 1)), .int (xs (i + 2))] [.int _] dL_law_373 zX10_place mlL_43 rfl rfl rfl (fun _ => rfl) rfl (Nat.le_of_ble_eq_true rfl) (Nat.le_of_ble_eq_true rfl) hl.1 ⟨by decide, by decide⟩ ⟨by omega, by omega⟩ (mo_place hX hM _ _ (fun MM2 hM H1 locs1 XX => ?_))
  refine lv_icmp_eq (tgt := 1562) hx hb dL_law_376 (by decide) (fun _ => ?_) (fun z => absurd rfl z)
  refine W.widen (k := cells + 1) (n := slots + 6) (by omega) (by omega) ?_
  exact fin _ _ _ _ _ _ _ (wx_place hX _ _) hC hM XX hl
set_option maxHeartbeats 4000000 in
set_option maxRecDepth 100000 in
theorem lc_late {p : Program} {l : Launch} {e : Env} {s : State} {m : MethodId} {below : List Frame} {meth : Method} {c : Code} {b L : Nat} {xs : Nat → Int32} {D : va_G} {cA : Nat → ClassId} {adC adM : Nat → Nat} {o : Nat} {MC MM : xM} {f : Nat → Int64} {H : Heap} {locs : List Loc} {Qf : State → Prop} {cells slots i : Nat} {ls : Array Slot} {X : xX} (K : LK p l s m meth c b L xs D cA adC adM o) (hX : wX X) (hC : RepC X MC) (hM : RepM X MM) (XX : LH D cA adC adM o s MC MM f H locs) (hL : L < 2 ^ 31) (hi : i + 6 ≤ L) (hcs : cells + 1 ≤ 601024 ∧ slots + 6 ≤ 7293034) (hl : lv_has ls 8 (lvL b adC adM o i)) (fin : LF p l e s m below meth c b D cA adC adM o Qf cells slots i) : W p l e room_1 s m #[.ref b] below meth c H locs cells slots Qf (F0 m 381 ls []) := by
  obtain ⟨⟨hx, hb, hr, hml, hown, hts, hXx, hbl, hlocks, hgv⟩, hlt, hK, hZ0, hZx, hLD⟩ := id K
  have ht : ∀ w ∈ xtb, w.before #[Value.ref b] s = true := fun w h => hts w (List.mem_filter.mp h).1
  refine lv_aload_n hx hb dL_law_381 rfl (lv_at hl 1 rfl) ?_
  refine law_arg K XX.2.2.2 (i := i) (j := 1) (a0 := 0) (a4 := 4) hl rfl rfl hL (by omega) (by decide) dL_law_382 dL_law_383 dL_law_385 dL_law_386 dL_law_387 ?_
  refine law_C K XX [.int (xs (i + 1))] [] dL_law_388 zX9_late mlL_44 rfl rfl rfl (fun _ => rfl) rfl (Nat.le_of_ble_eq_true rfl) (Nat.le_of_ble_eq_true rfl) hl.1 ⟨by decide, by decide⟩ ⟨by omega, by omega⟩ (cl_late hX hC _ (fun MC2 hC H1 locs1 XX => ?_))
  refine lv_aload_n hx hb dL_law_391 rfl (lv_at hl 2 rfl) ?_
  refine law_arg K XX.2.2.2 (i := i) (j := 1) (a0 := 0) (a4 := 4) hl rfl rfl hL (by omega) (by decide) dL_law_392 dL_law_393 dL_law_395 dL_law_396 dL_law_397 ?_
  refine law_M K XX [.int (xs (i + 1))] [.int _] dL_law_398 zX10_late mlL_47 rfl rfl rfl (fun _ => rfl) rfl (Nat.le_of_ble_eq_true rfl) (Nat.le_of_ble_eq_true rfl) hl.1 ⟨by decide, by decide⟩ ⟨by omega, by omega⟩ (mo_late hX hM _ (fun MM2 hM H1 locs1 XX => ?_))
  refine lv_icmp_eq (tgt := 1562) hx hb dL_law_401 (by decide) (fun _ => ?_) (fun z => absurd rfl z)
  refine W.widen (k := cells + 1) (n := slots + 6) (by omega) (by omega) ?_
  exact fin _ _ _ _ _ _ _ (wx_late hX _) hC hM XX hl
set_option maxHeartbeats 4000000 in
set_option maxRecDepth 100000 in
theorem lc_risk {p : Program} {l : Launch} {e : Env} {s : State} {m : MethodId} {below : List Frame} {meth : Method} {c : Code} {b L : Nat} {xs : Nat → Int32} {D : va_G} {cA : Nat → ClassId} {adC adM : Nat → Nat} {o : Nat} {MC MM : xM} {f : Nat → Int64} {H : Heap} {locs : List Loc} {Qf : State → Prop} {cells slots i : Nat} {ls : Array Slot} {X : xX} (K : LK p l s m meth c b L xs D cA adC adM o) (hX : wX X) (hC : RepC X MC) (hM : RepM X MM) (XX : LH D cA adC adM o s MC MM f H locs) (hL : L < 2 ^ 31) (hi : i + 6 ≤ L) (hcs : cells + 1 ≤ 601024 ∧ slots + 6 ≤ 7293034) (hl : lv_has ls 8 (lvL b adC adM o i)) (fin : LF p l e s m below meth c b D cA adC adM o Qf cells slots i) : W p l e room_1 s m #[.ref b] below meth c H locs cells slots Qf (F0 m 406 ls []) := by
  obtain ⟨⟨hx, hb, hr, hml, hown, hts, hXx, hbl, hlocks, hgv⟩, hlt, hK, hZ0, hZx, hLD⟩ := id K
  have ht : ∀ w ∈ xtb, w.before #[Value.ref b] s = true := fun w h => hts w (List.mem_filter.mp h).1
  refine lv_aload_n hx hb dL_law_406 rfl (lv_at hl 1 rfl) ?_
  refine law_arg K XX.2.2.2 (i := i) (j := 1) (a0 := 0) (a4 := 4) hl rfl rfl hL (by omega) (by decide) dL_law_407 dL_law_408 dL_law_410 dL_law_411 dL_law_412 ?_
  refine law_C K XX [.int (xs (i + 1))] [] dL_law_413 zX9_risk mlL_48 rfl rfl rfl (fun _ => rfl) rfl (Nat.le_of_ble_eq_true rfl) (Nat.le_of_ble_eq_true rfl) hl.1 ⟨by decide, by decide⟩ ⟨by omega, by omega⟩ (cl_risk hX hC _ (fun MC2 hC H1 locs1 XX => ?_))
  refine lv_aload_n hx hb dL_law_416 rfl (lv_at hl 2 rfl) ?_
  refine law_arg K XX.2.2.2 (i := i) (j := 1) (a0 := 0) (a4 := 4) hl rfl rfl hL (by omega) (by decide) dL_law_417 dL_law_418 dL_law_420 dL_law_421 dL_law_422 ?_
  refine law_M K XX [.int (xs (i + 1))] [.int _] dL_law_423 zX10_risk mlL_51 rfl rfl rfl (fun _ => rfl) rfl (Nat.le_of_ble_eq_true rfl) (Nat.le_of_ble_eq_true rfl) hl.1 ⟨by decide, by decide⟩ ⟨by omega, by omega⟩ (mo_risk hX hM _ (fun MM2 hM H1 locs1 XX => ?_))
  refine lv_icmp_eq (tgt := 1562) hx hb dL_law_426 (by decide) (fun _ => ?_) (fun z => absurd rfl z)
  refine W.widen (k := cells + 1) (n := slots + 6) (by omega) (by omega) ?_
  exact fin _ _ _ _ _ _ _ (wx_risk hX _) hC hM XX hl
set_option maxHeartbeats 4000000 in
set_option maxRecDepth 100000 in
theorem lc_pack {p : Program} {l : Launch} {e : Env} {s : State} {m : MethodId} {below : List Frame} {meth : Method} {c : Code} {b L : Nat} {xs : Nat → Int32} {D : va_G} {cA : Nat → ClassId} {adC adM : Nat → Nat} {o : Nat} {MC MM : xM} {f : Nat → Int64} {H : Heap} {locs : List Loc} {Qf : State → Prop} {cells slots i : Nat} {ls : Array Slot} {X : xX} (K : LK p l s m meth c b L xs D cA adC adM o) (hX : wX X) (hC : RepC X MC) (hM : RepM X MM) (XX : LH D cA adC adM o s MC MM f H locs) (hL : L < 2 ^ 31) (hi : i + 6 ≤ L) (hcs : cells + 1 ≤ 601024 ∧ slots + 6 ≤ 7293034) (hl : lv_has ls 8 (lvL b adC adM o i)) (fin : LF p l e s m below meth c b D cA adC adM o Qf cells slots i) : W p l e room_1 s m #[.ref b] below meth c H locs cells slots Qf (F0 m 431 ls []) := by
  obtain ⟨⟨hx, hb, hr, hml, hown, hts, hXx, hbl, hlocks, hgv⟩, hlt, hK, hZ0, hZx, hLD⟩ := id K
  have ht : ∀ w ∈ xtb, w.before #[Value.ref b] s = true := fun w h => hts w (List.mem_filter.mp h).1
  refine lv_aload_n hx hb dL_law_431 rfl (lv_at hl 1 rfl) ?_
  refine law_arg K XX.2.2.2 (i := i) (j := 1) (a0 := 0) (a4 := 4) hl rfl rfl hL (by omega) (by decide) dL_law_432 dL_law_433 dL_law_435 dL_law_436 dL_law_437 ?_
  refine law_arg K XX.2.2.2 (i := i) (j := 2) (a0 := 0) (a4 := 4) hl rfl rfl hL (by omega) (by decide) dL_law_438 dL_law_439 dL_law_441 dL_law_442 dL_law_443 ?_
  refine law_arg K XX.2.2.2 (i := i) (j := 3) (a0 := 0) (a4 := 4) hl rfl rfl hL (by omega) (by decide) dL_law_444 dL_law_445 dL_law_447 dL_law_448 dL_law_449 ?_
  refine law_arg K XX.2.2.2 (i := i) (j := 4) (a0 := 0) (a4 := 4) hl rfl rfl hL (by omega) (by decide) dL_law_450 dL_law_451 dL_law_453 dL_law_454 dL_law_455 ?_
  refine law_arg K XX.2.2.2 (i := i) (j := 5) (a0 := 0) (a4 := 4) hl rfl rfl hL (by omega) (by decide) dL_law_456 dL_law_457 dL_law_459 dL_law_460 dL_law_461 ?_
  refine law_C K XX [.int (xs (i + 1)), .int (xs (i + 2)), .int (xs (i + 3)), .int (xs (i + 4)), .int (xs (i + 5))] [] dL_law_462 zX9_pack mlL_52 rfl rfl rfl (fun _ => rfl) rfl (Nat.le_of_ble_eq_true rfl) (Nat.le_of_ble_eq_true rfl) hl.1 ⟨by decide, by decide⟩ ⟨by omega, by omega⟩ (cl_pack _ _ _ _ _ (fun H1 locs1 XX => ?_))
  refine lv_aload_n hx hb dL_law_465 rfl (lv_at hl 2 rfl) ?_
  refine law_arg K XX.2.2.2 (i := i) (j := 1) (a0 := 0) (a4 := 4) hl rfl rfl hL (by omega) (by decide) dL_law_466 dL_law_467 dL_law_469 dL_law_470 dL_law_471 ?_
  refine law_arg K XX.2.2.2 (i := i) (j := 2) (a0 := 0) (a4 := 4) hl rfl rfl hL (by omega) (by decide) dL_law_472 dL_law_473 dL_law_475 dL_law_476 dL_law_477 ?_
  refine law_arg K XX.2.2.2 (i := i) (j := 3) (a0 := 0) (a4 := 4) hl rfl rfl hL (by omega) (by decide) dL_law_478 dL_law_479 dL_law_481 dL_law_482 dL_law_483 ?_
  refine law_arg K XX.2.2.2 (i := i) (j := 4) (a0 := 0) (a4 := 4) hl rfl rfl hL (by omega) (by decide) dL_law_484 dL_law_485 dL_law_487 dL_law_488 dL_law_489 ?_
  refine law_arg K XX.2.2.2 (i := i) (j := 5) (a0 := 0) (a4 := 4) hl rfl rfl hL (by omega) (by decide) dL_law_490 dL_law_491 dL_law_493 dL_law_494 dL_law_495 ?_
  refine law_M K XX [.int (xs (i + 1)), .int (xs (i + 2)), .int (xs (i + 3)), .int (xs (i + 4)), .int (xs (i + 5))] [.long _] dL_law_496 zX10_pack mlL_56 rfl rfl rfl (fun _ => rfl) rfl (Nat.le_of_ble_eq_true rfl) (Nat.le_of_ble_eq_true rfl) hl.1 ⟨by decide, by decide⟩ ⟨by omega, by omega⟩ (mo_pack _ _ _ _ _ (fun H1 locs1 XX => ?_))
  refine W.lcmp hx hb dL_law_499 ?_
  refine lv_if_eq (tgt := 1562) hx hb dL_law_500 (by decide) (fun _ => ?_) (fun z => absurd (lg_cmp_self _) z)
  refine W.widen (k := cells + 1) (n := slots + 6) (by omega) (by omega) ?_
  exact fin _ _ _ _ _ _ _ hX hC hM XX hl
set_option maxHeartbeats 4000000 in
set_option maxRecDepth 100000 in
theorem lc_feed {p : Program} {l : Launch} {e : Env} {s : State} {m : MethodId} {below : List Frame} {meth : Method} {c : Code} {b L : Nat} {xs : Nat → Int32} {D : va_G} {cA : Nat → ClassId} {adC adM : Nat → Nat} {o : Nat} {MC MM : xM} {f : Nat → Int64} {H : Heap} {locs : List Loc} {Qf : State → Prop} {cells slots i : Nat} {ls : Array Slot} {X : xX} (K : LK p l s m meth c b L xs D cA adC adM o) (hX : wX X) (hC : RepC X MC) (hM : RepM X MM) (XX : LH D cA adC adM o s MC MM f H locs) (hL : L < 2 ^ 31) (hi : i + 6 ≤ L) (hcs : cells + 1 ≤ 601024 ∧ slots + 6 ≤ 7293034) (hl : lv_has ls 8 (lvL b adC adM o i)) (fin : LF p l e s m below meth c b D cA adC adM o Qf cells slots i) : W p l e room_1 s m #[.ref b] below meth c H locs cells slots Qf (F0 m 505 ls []) := by
  obtain ⟨⟨hx, hb, hr, hml, hown, hts, hXx, hbl, hlocks, hgv⟩, hlt, hK, hZ0, hZx, hLD⟩ := id K
  have ht : ∀ w ∈ xtb, w.before #[Value.ref b] s = true := fun w h => hts w (List.mem_filter.mp h).1
  refine lv_aload_n hx hb dL_law_505 rfl (lv_at hl 1 rfl) ?_
  refine law_arg K XX.2.2.2 (i := i) (j := 1) (a0 := 0) (a4 := 4) hl rfl rfl hL (by omega) (by decide) dL_law_506 dL_law_507 dL_law_509 dL_law_510 dL_law_511 ?_
  refine law_arg K XX.2.2.2 (i := i) (j := 2) (a0 := 0) (a4 := 4) hl rfl rfl hL (by omega) (by decide) dL_law_512 dL_law_513 dL_law_515 dL_law_516 dL_law_517 ?_
  refine lv_i2l hx hb dL_law_518 rfl ?_
  refine lv_bipush (v := 32) hx hb dL_law_519 rfl ?_
  refine lv_lshl hx hb dL_law_521 rfl ?_
  refine law_arg K XX.2.2.2 (i := i) (j := 3) (a0 := 0) (a4 := 4) hl rfl rfl hL (by omega) (by decide) dL_law_522 dL_law_523 dL_law_525 dL_law_526 dL_law_527 ?_
  refine lv_i2l hx hb dL_law_528 rfl ?_
  refine lv_ldc2 hx hb hown (ht _ kcL_57) dL_law_529 ?_
  refine lv_land hx hb dL_law_532 ?_
  refine lv_lor hx hb dL_law_533 ?_
  refine law_C K XX [.int (xs (i + 1)), .long _] [] dL_law_534 zX9_feed mlL_59 rfl rfl rfl (fun _ => rfl) rfl (Nat.le_of_ble_eq_true rfl) (Nat.le_of_ble_eq_true rfl) hl.1 ⟨by decide, by decide⟩ ⟨by omega, by omega⟩ (cl_feed hX hC _ _ (fun MC2 hC H1 locs1 XX => ?_))
  refine lv_aload_n hx hb dL_law_537 rfl (lv_at hl 2 rfl) ?_
  refine law_arg K XX.2.2.2 (i := i) (j := 1) (a0 := 0) (a4 := 4) hl rfl rfl hL (by omega) (by decide) dL_law_538 dL_law_539 dL_law_541 dL_law_542 dL_law_543 ?_
  refine law_arg K XX.2.2.2 (i := i) (j := 2) (a0 := 0) (a4 := 4) hl rfl rfl hL (by omega) (by decide) dL_law_544 dL_law_545 dL_law_547 dL_law_548 dL_law_549 ?_
  refine lv_i2l hx hb dL_law_550 rfl ?_
  refine lv_bipush (v := 32) hx hb dL_law_551 rfl ?_
  refine lv_lshl hx hb dL_law_553 rfl ?_
  refine law_arg K XX.2.2.2 (i := i) (j := 3) (a0 := 0) (a4 := 4) hl rfl rfl hL (by omega) (by decide) dL_law_554 dL_law_555 dL_law_557 dL_law_558 dL_law_559 ?_
  refine lv_i2l hx hb dL_law_560 rfl ?_
  refine lv_ldc2 hx hb hown (ht _ kcL_57) dL_law_561 ?_
  refine lv_land hx hb dL_law_564 ?_
  refine lv_lor hx hb dL_law_565 ?_
  refine law_M K XX [.int (xs (i + 1)), .long _] [.int _] dL_law_566 zX10_feed mlL_63 rfl rfl rfl (fun _ => rfl) rfl (Nat.le_of_ble_eq_true rfl) (Nat.le_of_ble_eq_true rfl) hl.1 ⟨by decide, by decide⟩ ⟨by omega, by omega⟩ (mo_feed hX hM _ _ (fun MM2 hM H1 locs1 XX => ?_))
  refine lv_icmp_eq (tgt := 1562) hx hb dL_law_569 (by decide) (fun _ => ?_) (fun z => absurd rfl z)
  refine W.widen (k := cells + 1) (n := slots + 6) (by omega) (by omega) ?_
  exact fin _ _ _ _ _ _ _ (wx_feed hX _ _) hC hM XX hl
set_option maxHeartbeats 4000000 in
set_option maxRecDepth 100000 in
theorem lc_step {p : Program} {l : Launch} {e : Env} {s : State} {m : MethodId} {below : List Frame} {meth : Method} {c : Code} {b L : Nat} {xs : Nat → Int32} {D : va_G} {cA : Nat → ClassId} {adC adM : Nat → Nat} {o : Nat} {MC MM : xM} {f : Nat → Int64} {H : Heap} {locs : List Loc} {Qf : State → Prop} {cells slots i : Nat} {ls : Array Slot} {X : xX} (K : LK p l s m meth c b L xs D cA adC adM o) (hX : wX X) (hC : RepC X MC) (hM : RepM X MM) (XX : LH D cA adC adM o s MC MM f H locs) (hL : L < 2 ^ 31) (hi : i + 6 ≤ L) (hcs : cells + 1 ≤ 601024 ∧ slots + 6 ≤ 7293034) (hl : lv_has ls 8 (lvL b adC adM o i)) (fin : LF p l e s m below meth c b D cA adC adM o Qf cells slots i) : W p l e room_1 s m #[.ref b] below meth c H locs cells slots Qf (F0 m 574 ls []) := by
  obtain ⟨⟨hx, hb, hr, hml, hown, hts, hXx, hbl, hlocks, hgv⟩, hlt, hK, hZ0, hZx, hLD⟩ := id K
  have ht : ∀ w ∈ xtb, w.before #[Value.ref b] s = true := fun w h => hts w (List.mem_filter.mp h).1
  refine lv_aload_n hx hb dL_law_574 rfl (lv_at hl 1 rfl) ?_
  refine law_C K XX [] [] dL_law_575 zX9_step mlL_64 rfl rfl rfl (fun _ => rfl) rfl (Nat.le_of_ble_eq_true rfl) (Nat.le_of_ble_eq_true rfl) hl.1 ⟨by decide, by decide⟩ ⟨by omega, by omega⟩ (cl_step hX hC  (fun MC2 hC H1 locs1 XX => ?_))
  refine lv_aload_n hx hb dL_law_578 rfl (lv_at hl 2 rfl) ?_
  refine law_M K XX [] [.int _] dL_law_579 zX10_step mlL_68 rfl rfl rfl (fun _ => rfl) rfl (Nat.le_of_ble_eq_true rfl) (Nat.le_of_ble_eq_true rfl) hl.1 ⟨by decide, by decide⟩ ⟨by omega, by omega⟩ (mo_step hX hM  (fun MM2 hM H1 locs1 XX => ?_))
  refine lv_icmp_eq (tgt := 1562) hx hb dL_law_582 (by decide) (fun _ => ?_) (fun z => absurd rfl z)
  refine W.widen (k := cells + 1) (n := slots + 6) (by omega) (by omega) ?_
  exact fin _ _ _ _ _ _ _ (wx_step hX) hC hM XX hl
set_option maxHeartbeats 4000000 in
set_option maxRecDepth 100000 in
theorem lc_body {p : Program} {l : Launch} {e : Env} {s : State} {m : MethodId} {below : List Frame} {meth : Method} {c : Code} {b L : Nat} {xs : Nat → Int32} {D : va_G} {cA : Nat → ClassId} {adC adM : Nat → Nat} {o : Nat} {MC MM : xM} {f : Nat → Int64} {H : Heap} {locs : List Loc} {Qf : State → Prop} {cells slots i : Nat} {ls : Array Slot} {X : xX} (K : LK p l s m meth c b L xs D cA adC adM o) (hX : wX X) (hC : RepC X MC) (hM : RepM X MM) (XX : LH D cA adC adM o s MC MM f H locs) (hL : L < 2 ^ 31) (hi : i + 6 ≤ L) (hcs : cells + 1 ≤ 601024 ∧ slots + 6 ≤ 7293034) (hl : lv_has ls 8 (lvL b adC adM o i)) (fin : LF p l e s m below meth c b D cA adC adM o Qf cells slots i) : W p l e room_1 s m #[.ref b] below meth c H locs cells slots Qf (F0 m 587 ls []) := by
  obtain ⟨⟨hx, hb, hr, hml, hown, hts, hXx, hbl, hlocks, hgv⟩, hlt, hK, hZ0, hZx, hLD⟩ := id K
  have ht : ∀ w ∈ xtb, w.before #[Value.ref b] s = true := fun w h => hts w (List.mem_filter.mp h).1
  refine lv_aload_n hx hb dL_law_587 rfl (lv_at hl 1 rfl) ?_
  refine law_arg K XX.2.2.2 (i := i) (j := 1) (a0 := 0) (a4 := 4) hl rfl rfl hL (by omega) (by decide) dL_law_588 dL_law_589 dL_law_591 dL_law_592 dL_law_593 ?_
  refine law_arg K XX.2.2.2 (i := i) (j := 2) (a0 := 0) (a4 := 4) hl rfl rfl hL (by omega) (by decide) dL_law_594 dL_law_595 dL_law_597 dL_law_598 dL_law_599 ?_
  refine law_C K XX [.int (xs (i + 1)), .int (xs (i + 2))] [] dL_law_600 zX9_body mlL_69 rfl rfl rfl (fun _ => rfl) rfl (Nat.le_of_ble_eq_true rfl) (Nat.le_of_ble_eq_true rfl) hl.1 ⟨by decide, by decide⟩ ⟨by omega, by omega⟩ (cl_body hX hC _ _ (fun H1 locs1 XX => ?_))
  refine lv_aload_n hx hb dL_law_603 rfl (lv_at hl 2 rfl) ?_
  refine law_arg K XX.2.2.2 (i := i) (j := 1) (a0 := 0) (a4 := 4) hl rfl rfl hL (by omega) (by decide) dL_law_604 dL_law_605 dL_law_607 dL_law_608 dL_law_609 ?_
  refine law_arg K XX.2.2.2 (i := i) (j := 2) (a0 := 0) (a4 := 4) hl rfl rfl hL (by omega) (by decide) dL_law_610 dL_law_611 dL_law_613 dL_law_614 dL_law_615 ?_
  refine law_M K XX [.int (xs (i + 1)), .int (xs (i + 2))] [.int _] dL_law_616 zX10_body mlL_72 rfl rfl rfl (fun _ => rfl) rfl (Nat.le_of_ble_eq_true rfl) (Nat.le_of_ble_eq_true rfl) hl.1 ⟨by decide, by decide⟩ ⟨by omega, by omega⟩ (mo_body hX hM _ _ (fun H1 locs1 XX => ?_))
  refine lv_icmp_eq (tgt := 1562) hx hb dL_law_619 (by decide) (fun _ => ?_) (fun z => absurd rfl z)
  refine W.widen (k := cells + 1) (n := slots + 6) (by omega) (by omega) ?_
  exact fin _ _ _ _ _ _ _ hX hC hM XX hl
set_option maxHeartbeats 4000000 in
set_option maxRecDepth 100000 in
theorem lc_thing {p : Program} {l : Launch} {e : Env} {s : State} {m : MethodId} {below : List Frame} {meth : Method} {c : Code} {b L : Nat} {xs : Nat → Int32} {D : va_G} {cA : Nat → ClassId} {adC adM : Nat → Nat} {o : Nat} {MC MM : xM} {f : Nat → Int64} {H : Heap} {locs : List Loc} {Qf : State → Prop} {cells slots i : Nat} {ls : Array Slot} {X : xX} (K : LK p l s m meth c b L xs D cA adC adM o) (hX : wX X) (hC : RepC X MC) (hM : RepM X MM) (XX : LH D cA adC adM o s MC MM f H locs) (hL : L < 2 ^ 31) (hi : i + 6 ≤ L) (hcs : cells + 1 ≤ 601024 ∧ slots + 6 ≤ 7293034) (hl : lv_has ls 8 (lvL b adC adM o i)) (fin : LF p l e s m below meth c b D cA adC adM o Qf cells slots i) : W p l e room_1 s m #[.ref b] below meth c H locs cells slots Qf (F0 m 624 ls []) := by
  obtain ⟨⟨hx, hb, hr, hml, hown, hts, hXx, hbl, hlocks, hgv⟩, hlt, hK, hZ0, hZx, hLD⟩ := id K
  have ht : ∀ w ∈ xtb, w.before #[Value.ref b] s = true := fun w h => hts w (List.mem_filter.mp h).1
  refine lv_aload_n hx hb dL_law_624 rfl (lv_at hl 1 rfl) ?_
  refine law_arg K XX.2.2.2 (i := i) (j := 1) (a0 := 0) (a4 := 4) hl rfl rfl hL (by omega) (by decide) dL_law_625 dL_law_626 dL_law_628 dL_law_629 dL_law_630 ?_
  refine law_arg K XX.2.2.2 (i := i) (j := 2) (a0 := 0) (a4 := 4) hl rfl rfl hL (by omega) (by decide) dL_law_631 dL_law_632 dL_law_634 dL_law_635 dL_law_636 ?_
  refine law_C K XX [.int (xs (i + 1)), .int (xs (i + 2))] [] dL_law_637 zX9_thing mlL_73 rfl rfl rfl (fun _ => rfl) rfl (Nat.le_of_ble_eq_true rfl) (Nat.le_of_ble_eq_true rfl) hl.1 ⟨by decide, by decide⟩ ⟨by omega, by omega⟩ (cl_thing hX hC _ _ (fun H1 locs1 XX => ?_))
  refine lv_aload_n hx hb dL_law_640 rfl (lv_at hl 2 rfl) ?_
  refine law_arg K XX.2.2.2 (i := i) (j := 1) (a0 := 0) (a4 := 4) hl rfl rfl hL (by omega) (by decide) dL_law_641 dL_law_642 dL_law_644 dL_law_645 dL_law_646 ?_
  refine law_arg K XX.2.2.2 (i := i) (j := 2) (a0 := 0) (a4 := 4) hl rfl rfl hL (by omega) (by decide) dL_law_647 dL_law_648 dL_law_650 dL_law_651 dL_law_652 ?_
  refine law_M K XX [.int (xs (i + 1)), .int (xs (i + 2))] [.int _] dL_law_653 zX10_thing mlL_76 rfl rfl rfl (fun _ => rfl) rfl (Nat.le_of_ble_eq_true rfl) (Nat.le_of_ble_eq_true rfl) hl.1 ⟨by decide, by decide⟩ ⟨by omega, by omega⟩ (mo_thing hX hM _ _ (fun H1 locs1 XX => ?_))
  refine lv_icmp_eq (tgt := 1562) hx hb dL_law_656 (by decide) (fun _ => ?_) (fun z => absurd rfl z)
  refine W.widen (k := cells + 1) (n := slots + 6) (by omega) (by omega) ?_
  exact fin _ _ _ _ _ _ _ hX hC hM XX hl
set_option maxHeartbeats 4000000 in
set_option maxRecDepth 100000 in
theorem lc_open {p : Program} {l : Launch} {e : Env} {s : State} {m : MethodId} {below : List Frame} {meth : Method} {c : Code} {b L : Nat} {xs : Nat → Int32} {D : va_G} {cA : Nat → ClassId} {adC adM : Nat → Nat} {o : Nat} {MC MM : xM} {f : Nat → Int64} {H : Heap} {locs : List Loc} {Qf : State → Prop} {cells slots i : Nat} {ls : Array Slot} {X : xX} (K : LK p l s m meth c b L xs D cA adC adM o) (hX : wX X) (hC : RepC X MC) (hM : RepM X MM) (XX : LH D cA adC adM o s MC MM f H locs) (hL : L < 2 ^ 31) (hi : i + 6 ≤ L) (hcs : cells + 1 ≤ 601024 ∧ slots + 6 ≤ 7293034) (hl : lv_has ls 8 (lvL b adC adM o i)) (fin : LF p l e s m below meth c b D cA adC adM o Qf cells slots i) : W p l e room_1 s m #[.ref b] below meth c H locs cells slots Qf (F0 m 661 ls []) := by
  obtain ⟨⟨hx, hb, hr, hml, hown, hts, hXx, hbl, hlocks, hgv⟩, hlt, hK, hZ0, hZx, hLD⟩ := id K
  have ht : ∀ w ∈ xtb, w.before #[Value.ref b] s = true := fun w h => hts w (List.mem_filter.mp h).1
  refine lv_aload_n hx hb dL_law_661 rfl (lv_at hl 1 rfl) ?_
  refine law_arg K XX.2.2.2 (i := i) (j := 1) (a0 := 0) (a4 := 4) hl rfl rfl hL (by omega) (by decide) dL_law_662 dL_law_663 dL_law_665 dL_law_666 dL_law_667 ?_
  refine law_C K XX [.int (xs (i + 1))] [] dL_law_668 zX9_open mlL_77 rfl rfl rfl (fun _ => rfl) rfl (Nat.le_of_ble_eq_true rfl) (Nat.le_of_ble_eq_true rfl) hl.1 ⟨by decide, by decide⟩ ⟨by omega, by omega⟩ (cl_open hX hC _ (fun H1 locs1 XX => ?_))
  refine lv_aload_n hx hb dL_law_671 rfl (lv_at hl 2 rfl) ?_
  refine law_arg K XX.2.2.2 (i := i) (j := 1) (a0 := 0) (a4 := 4) hl rfl rfl hL (by omega) (by decide) dL_law_672 dL_law_673 dL_law_675 dL_law_676 dL_law_677 ?_
  refine law_M K XX [.int (xs (i + 1))] [.int _] dL_law_678 zX10_open mlL_80 rfl rfl rfl (fun _ => rfl) rfl (Nat.le_of_ble_eq_true rfl) (Nat.le_of_ble_eq_true rfl) hl.1 ⟨by decide, by decide⟩ ⟨by omega, by omega⟩ (mo_open hX hM _ (fun H1 locs1 XX => ?_))
  refine lv_icmp_eq (tgt := 1562) hx hb dL_law_681 (by decide) (fun _ => ?_) (fun z => absurd rfl z)
  refine W.widen (k := cells + 1) (n := slots + 6) (by omega) (by omega) ?_
  exact fin _ _ _ _ _ _ _ hX hC hM XX hl
set_option maxHeartbeats 4000000 in
set_option maxRecDepth 100000 in
theorem lc_sees {p : Program} {l : Launch} {e : Env} {s : State} {m : MethodId} {below : List Frame} {meth : Method} {c : Code} {b L : Nat} {xs : Nat → Int32} {D : va_G} {cA : Nat → ClassId} {adC adM : Nat → Nat} {o : Nat} {MC MM : xM} {f : Nat → Int64} {H : Heap} {locs : List Loc} {Qf : State → Prop} {cells slots i : Nat} {ls : Array Slot} {X : xX} (K : LK p l s m meth c b L xs D cA adC adM o) (hX : wX X) (hC : RepC X MC) (hM : RepM X MM) (XX : LH D cA adC adM o s MC MM f H locs) (hL : L < 2 ^ 31) (hi : i + 6 ≤ L) (hcs : cells + 1 ≤ 601024 ∧ slots + 6 ≤ 7293034) (hl : lv_has ls 8 (lvL b adC adM o i)) (fin : LF p l e s m below meth c b D cA adC adM o Qf cells slots i) : W p l e room_1 s m #[.ref b] below meth c H locs cells slots Qf (F0 m 686 ls []) := by
  obtain ⟨⟨hx, hb, hr, hml, hown, hts, hXx, hbl, hlocks, hgv⟩, hlt, hK, hZ0, hZx, hLD⟩ := id K
  have ht : ∀ w ∈ xtb, w.before #[Value.ref b] s = true := fun w h => hts w (List.mem_filter.mp h).1
  refine lv_aload_n hx hb dL_law_686 rfl (lv_at hl 1 rfl) ?_
  refine law_arg K XX.2.2.2 (i := i) (j := 1) (a0 := 0) (a4 := 4) hl rfl rfl hL (by omega) (by decide) dL_law_687 dL_law_688 dL_law_690 dL_law_691 dL_law_692 ?_
  refine law_arg K XX.2.2.2 (i := i) (j := 2) (a0 := 0) (a4 := 4) hl rfl rfl hL (by omega) (by decide) dL_law_693 dL_law_694 dL_law_696 dL_law_697 dL_law_698 ?_
  refine law_C K XX [.int (xs (i + 1)), .int (xs (i + 2))] [] dL_law_699 zX9_sees mlL_81 rfl rfl rfl (fun _ => rfl) rfl (Nat.le_of_ble_eq_true rfl) (Nat.le_of_ble_eq_true rfl) hl.1 ⟨by decide, by decide⟩ ⟨by omega, by omega⟩ (cl_sees hX hC _ _ (fun H1 locs1 XX => ?_))
  refine lv_aload_n hx hb dL_law_702 rfl (lv_at hl 2 rfl) ?_
  refine law_arg K XX.2.2.2 (i := i) (j := 1) (a0 := 0) (a4 := 4) hl rfl rfl hL (by omega) (by decide) dL_law_703 dL_law_704 dL_law_706 dL_law_707 dL_law_708 ?_
  refine law_arg K XX.2.2.2 (i := i) (j := 2) (a0 := 0) (a4 := 4) hl rfl rfl hL (by omega) (by decide) dL_law_709 dL_law_710 dL_law_712 dL_law_713 dL_law_714 ?_
  refine law_M K XX [.int (xs (i + 1)), .int (xs (i + 2))] [.int _] dL_law_715 zX10_sees mlL_84 rfl rfl rfl (fun _ => rfl) rfl (Nat.le_of_ble_eq_true rfl) (Nat.le_of_ble_eq_true rfl) hl.1 ⟨by decide, by decide⟩ ⟨by omega, by omega⟩ (mo_sees hX hM _ _ (fun H1 locs1 XX => ?_))
  refine lv_icmp_eq (tgt := 1562) hx hb dL_law_718 (by decide) (fun _ => ?_) (fun z => absurd rfl z)
  refine W.widen (k := cells + 1) (n := slots + 6) (by omega) (by omega) ?_
  exact fin _ _ _ _ _ _ _ hX hC hM XX hl
set_option maxHeartbeats 4000000 in
set_option maxRecDepth 100000 in
theorem lc_told {p : Program} {l : Launch} {e : Env} {s : State} {m : MethodId} {below : List Frame} {meth : Method} {c : Code} {b L : Nat} {xs : Nat → Int32} {D : va_G} {cA : Nat → ClassId} {adC adM : Nat → Nat} {o : Nat} {MC MM : xM} {f : Nat → Int64} {H : Heap} {locs : List Loc} {Qf : State → Prop} {cells slots i : Nat} {ls : Array Slot} {X : xX} (K : LK p l s m meth c b L xs D cA adC adM o) (hX : wX X) (hC : RepC X MC) (hM : RepM X MM) (XX : LH D cA adC adM o s MC MM f H locs) (hL : L < 2 ^ 31) (hi : i + 6 ≤ L) (hcs : cells + 1 ≤ 601024 ∧ slots + 6 ≤ 7293034) (hl : lv_has ls 8 (lvL b adC adM o i)) (fin : LF p l e s m below meth c b D cA adC adM o Qf cells slots i) : W p l e room_1 s m #[.ref b] below meth c H locs cells slots Qf (F0 m 723 ls []) := by
  obtain ⟨⟨hx, hb, hr, hml, hown, hts, hXx, hbl, hlocks, hgv⟩, hlt, hK, hZ0, hZx, hLD⟩ := id K
  have ht : ∀ w ∈ xtb, w.before #[Value.ref b] s = true := fun w h => hts w (List.mem_filter.mp h).1
  refine lv_aload_n hx hb dL_law_723 rfl (lv_at hl 1 rfl) ?_
  refine law_arg K XX.2.2.2 (i := i) (j := 1) (a0 := 0) (a4 := 4) hl rfl rfl hL (by omega) (by decide) dL_law_724 dL_law_725 dL_law_727 dL_law_728 dL_law_729 ?_
  refine law_arg K XX.2.2.2 (i := i) (j := 2) (a0 := 0) (a4 := 4) hl rfl rfl hL (by omega) (by decide) dL_law_730 dL_law_731 dL_law_733 dL_law_734 dL_law_735 ?_
  refine law_C K XX [.int (xs (i + 1)), .int (xs (i + 2))] [] dL_law_736 zX9_told mlL_85 rfl rfl rfl (fun _ => rfl) rfl (Nat.le_of_ble_eq_true rfl) (Nat.le_of_ble_eq_true rfl) hl.1 ⟨by decide, by decide⟩ ⟨by omega, by omega⟩ (cl_told hX hC _ _ (fun H1 locs1 XX => ?_))
  refine lv_aload_n hx hb dL_law_739 rfl (lv_at hl 2 rfl) ?_
  refine law_arg K XX.2.2.2 (i := i) (j := 1) (a0 := 0) (a4 := 4) hl rfl rfl hL (by omega) (by decide) dL_law_740 dL_law_741 dL_law_743 dL_law_744 dL_law_745 ?_
  refine law_arg K XX.2.2.2 (i := i) (j := 2) (a0 := 0) (a4 := 4) hl rfl rfl hL (by omega) (by decide) dL_law_746 dL_law_747 dL_law_749 dL_law_750 dL_law_751 ?_
  refine law_M K XX [.int (xs (i + 1)), .int (xs (i + 2))] [.int _] dL_law_752 zX10_told mlL_88 rfl rfl rfl (fun _ => rfl) rfl (Nat.le_of_ble_eq_true rfl) (Nat.le_of_ble_eq_true rfl) hl.1 ⟨by decide, by decide⟩ ⟨by omega, by omega⟩ (mo_told hX hM _ _ (fun H1 locs1 XX => ?_))
  refine lv_icmp_eq (tgt := 1562) hx hb dL_law_755 (by decide) (fun _ => ?_) (fun z => absurd rfl z)
  refine W.widen (k := cells + 1) (n := slots + 6) (by omega) (by omega) ?_
  exact fin _ _ _ _ _ _ _ hX hC hM XX hl
set_option maxHeartbeats 4000000 in
set_option maxRecDepth 100000 in
theorem lc_letter {p : Program} {l : Launch} {e : Env} {s : State} {m : MethodId} {below : List Frame} {meth : Method} {c : Code} {b L : Nat} {xs : Nat → Int32} {D : va_G} {cA : Nat → ClassId} {adC adM : Nat → Nat} {o : Nat} {MC MM : xM} {f : Nat → Int64} {H : Heap} {locs : List Loc} {Qf : State → Prop} {cells slots i : Nat} {ls : Array Slot} {X : xX} (K : LK p l s m meth c b L xs D cA adC adM o) (hX : wX X) (hC : RepC X MC) (hM : RepM X MM) (XX : LH D cA adC adM o s MC MM f H locs) (hL : L < 2 ^ 31) (hi : i + 6 ≤ L) (hcs : cells + 1 ≤ 601024 ∧ slots + 6 ≤ 7293034) (hl : lv_has ls 8 (lvL b adC adM o i)) (fin : LF p l e s m below meth c b D cA adC adM o Qf cells slots i) : W p l e room_1 s m #[.ref b] below meth c H locs cells slots Qf (F0 m 760 ls []) := by
  obtain ⟨⟨hx, hb, hr, hml, hown, hts, hXx, hbl, hlocks, hgv⟩, hlt, hK, hZ0, hZx, hLD⟩ := id K
  have ht : ∀ w ∈ xtb, w.before #[Value.ref b] s = true := fun w h => hts w (List.mem_filter.mp h).1
  refine lv_aload_n hx hb dL_law_760 rfl (lv_at hl 1 rfl) ?_
  refine law_arg K XX.2.2.2 (i := i) (j := 1) (a0 := 0) (a4 := 4) hl rfl rfl hL (by omega) (by decide) dL_law_761 dL_law_762 dL_law_764 dL_law_765 dL_law_766 ?_
  refine law_arg K XX.2.2.2 (i := i) (j := 2) (a0 := 0) (a4 := 4) hl rfl rfl hL (by omega) (by decide) dL_law_767 dL_law_768 dL_law_770 dL_law_771 dL_law_772 ?_
  refine law_C K XX [.int (xs (i + 1)), .int (xs (i + 2))] [] dL_law_773 zX9_letter mlL_89 rfl rfl rfl (fun _ => rfl) rfl (Nat.le_of_ble_eq_true rfl) (Nat.le_of_ble_eq_true rfl) hl.1 ⟨by decide, by decide⟩ ⟨by omega, by omega⟩ (cl_letter hX hC _ _ (fun H1 locs1 XX => ?_))
  refine lv_aload_n hx hb dL_law_776 rfl (lv_at hl 2 rfl) ?_
  refine law_arg K XX.2.2.2 (i := i) (j := 1) (a0 := 0) (a4 := 4) hl rfl rfl hL (by omega) (by decide) dL_law_777 dL_law_778 dL_law_780 dL_law_781 dL_law_782 ?_
  refine law_arg K XX.2.2.2 (i := i) (j := 2) (a0 := 0) (a4 := 4) hl rfl rfl hL (by omega) (by decide) dL_law_783 dL_law_784 dL_law_786 dL_law_787 dL_law_788 ?_
  refine law_M K XX [.int (xs (i + 1)), .int (xs (i + 2))] [.int _] dL_law_789 zX10_letter mlL_92 rfl rfl rfl (fun _ => rfl) rfl (Nat.le_of_ble_eq_true rfl) (Nat.le_of_ble_eq_true rfl) hl.1 ⟨by decide, by decide⟩ ⟨by omega, by omega⟩ (mo_letter hX hM _ _ (fun H1 locs1 XX => ?_))
  refine lv_icmp_eq (tgt := 1562) hx hb dL_law_792 (by decide) (fun _ => ?_) (fun z => absurd rfl z)
  refine W.widen (k := cells + 1) (n := slots + 6) (by omega) (by omega) ?_
  exact fin _ _ _ _ _ _ _ hX hC hM XX hl
set_option maxHeartbeats 4000000 in
set_option maxRecDepth 100000 in
theorem lc_digest {p : Program} {l : Launch} {e : Env} {s : State} {m : MethodId} {below : List Frame} {meth : Method} {c : Code} {b L : Nat} {xs : Nat → Int32} {D : va_G} {cA : Nat → ClassId} {adC adM : Nat → Nat} {o : Nat} {MC MM : xM} {f : Nat → Int64} {H : Heap} {locs : List Loc} {Qf : State → Prop} {cells slots i : Nat} {ls : Array Slot} {X : xX} (K : LK p l s m meth c b L xs D cA adC adM o) (hX : wX X) (hC : RepC X MC) (hM : RepM X MM) (XX : LH D cA adC adM o s MC MM f H locs) (hL : L < 2 ^ 31) (hi : i + 6 ≤ L) (hcs : cells + 1 ≤ 601024 ∧ slots + 6 ≤ 7293034) (hl : lv_has ls 8 (lvL b adC adM o i)) (fin : LF p l e s m below meth c b D cA adC adM o Qf cells slots i) : W p l e room_1 s m #[.ref b] below meth c H locs cells slots Qf (F0 m 797 ls []) := by
  obtain ⟨⟨hx, hb, hr, hml, hown, hts, hXx, hbl, hlocks, hgv⟩, hlt, hK, hZ0, hZx, hLD⟩ := id K
  have ht : ∀ w ∈ xtb, w.before #[Value.ref b] s = true := fun w h => hts w (List.mem_filter.mp h).1
  refine lv_aload_n hx hb dL_law_797 rfl (lv_at hl 1 rfl) ?_
  refine law_arg K XX.2.2.2 (i := i) (j := 1) (a0 := 0) (a4 := 4) hl rfl rfl hL (by omega) (by decide) dL_law_798 dL_law_799 dL_law_801 dL_law_802 dL_law_803 ?_
  refine law_C K XX [.int (xs (i + 1))] [] dL_law_804 zX9_digest mlL_93 rfl rfl rfl (fun _ => rfl) rfl (Nat.le_of_ble_eq_true rfl) (Nat.le_of_ble_eq_true rfl) hl.1 ⟨by decide, by decide⟩ ⟨by omega, by omega⟩ (cl_digest hX hC _ (fun H1 locs1 XX => ?_))
  refine lv_aload_n hx hb dL_law_807 rfl (lv_at hl 2 rfl) ?_
  refine law_arg K XX.2.2.2 (i := i) (j := 1) (a0 := 0) (a4 := 4) hl rfl rfl hL (by omega) (by decide) dL_law_808 dL_law_809 dL_law_811 dL_law_812 dL_law_813 ?_
  refine law_M K XX [.int (xs (i + 1))] [.int _] dL_law_814 zX10_digest mlL_96 rfl rfl rfl (fun _ => rfl) rfl (Nat.le_of_ble_eq_true rfl) (Nat.le_of_ble_eq_true rfl) hl.1 ⟨by decide, by decide⟩ ⟨by omega, by omega⟩ (mo_digest hX hM _ (fun H1 locs1 XX => ?_))
  refine lv_icmp_eq (tgt := 1562) hx hb dL_law_817 (by decide) (fun _ => ?_) (fun z => absurd rfl z)
  refine W.widen (k := cells + 1) (n := slots + 6) (by omega) (by omega) ?_
  exact fin _ _ _ _ _ _ _ hX hC hM XX hl
set_option maxHeartbeats 4000000 in
set_option maxRecDepth 100000 in
theorem lc_replay {p : Program} {l : Launch} {e : Env} {s : State} {m : MethodId} {below : List Frame} {meth : Method} {c : Code} {b L : Nat} {xs : Nat → Int32} {D : va_G} {cA : Nat → ClassId} {adC adM : Nat → Nat} {o : Nat} {MC MM : xM} {f : Nat → Int64} {H : Heap} {locs : List Loc} {Qf : State → Prop} {cells slots i : Nat} {ls : Array Slot} {X : xX} (K : LK p l s m meth c b L xs D cA adC adM o) (hX : wX X) (hC : RepC X MC) (hM : RepM X MM) (XX : LH D cA adC adM o s MC MM f H locs) (hL : L < 2 ^ 31) (hi : i + 6 ≤ L) (hcs : cells + 1 ≤ 601024 ∧ slots + 6 ≤ 7293034) (hl : lv_has ls 8 (lvL b adC adM o i)) (fin : LF p l e s m below meth c b D cA adC adM o Qf cells slots i) : W p l e room_1 s m #[.ref b] below meth c H locs cells slots Qf (F0 m 822 ls []) := by
  obtain ⟨⟨hx, hb, hr, hml, hown, hts, hXx, hbl, hlocks, hgv⟩, hlt, hK, hZ0, hZx, hLD⟩ := id K
  have ht : ∀ w ∈ xtb, w.before #[Value.ref b] s = true := fun w h => hts w (List.mem_filter.mp h).1
  refine lv_aload_n hx hb dL_law_822 rfl (lv_at hl 1 rfl) ?_
  refine law_arg K XX.2.2.2 (i := i) (j := 1) (a0 := 0) (a4 := 4) hl rfl rfl hL (by omega) (by decide) dL_law_823 dL_law_824 dL_law_826 dL_law_827 dL_law_828 ?_
  refine law_C K XX [.int (xs (i + 1))] [] dL_law_829 zX9_replay mlL_97 rfl rfl rfl (fun _ => rfl) rfl (Nat.le_of_ble_eq_true rfl) (Nat.le_of_ble_eq_true rfl) hl.1 ⟨by decide, by decide⟩ ⟨by omega, by omega⟩ (cl_replay hX hC _ (fun MC2 hC H1 locs1 XX => ?_))
  refine lv_aload_n hx hb dL_law_832 rfl (lv_at hl 2 rfl) ?_
  refine law_arg K XX.2.2.2 (i := i) (j := 1) (a0 := 0) (a4 := 4) hl rfl rfl hL (by omega) (by decide) dL_law_833 dL_law_834 dL_law_836 dL_law_837 dL_law_838 ?_
  refine law_M K XX [.int (xs (i + 1))] [.int _] dL_law_839 zX10_replay mlL_100 rfl rfl rfl (fun _ => rfl) rfl (Nat.le_of_ble_eq_true rfl) (Nat.le_of_ble_eq_true rfl) hl.1 ⟨by decide, by decide⟩ ⟨by omega, by omega⟩ (mo_replay hX hM _ (fun H1 locs1 XX => ?_))
  refine lv_icmp_eq (tgt := 1562) hx hb dL_law_842 (by decide) (fun _ => ?_) (fun z => absurd rfl z)
  refine W.widen (k := cells + 1) (n := slots + 6) (by omega) (by omega) ?_
  exact fin _ _ _ _ _ _ _ hX hC hM XX hl
set_option maxHeartbeats 4000000 in
set_option maxRecDepth 100000 in
theorem lc_fall {p : Program} {l : Launch} {e : Env} {s : State} {m : MethodId} {below : List Frame} {meth : Method} {c : Code} {b L : Nat} {xs : Nat → Int32} {D : va_G} {cA : Nat → ClassId} {adC adM : Nat → Nat} {o : Nat} {MC MM : xM} {f : Nat → Int64} {H : Heap} {locs : List Loc} {Qf : State → Prop} {cells slots i : Nat} {ls : Array Slot} {X : xX} (K : LK p l s m meth c b L xs D cA adC adM o) (hX : wX X) (hC : RepC X MC) (hM : RepM X MM) (XX : LH D cA adC adM o s MC MM f H locs) (hL : L < 2 ^ 31) (hi : i + 6 ≤ L) (hcs : cells + 1 ≤ 601024 ∧ slots + 6 ≤ 7293034) (hl : lv_has ls 8 (lvL b adC adM o i)) (fin : LF p l e s m below meth c b D cA adC adM o Qf cells slots i) : W p l e room_1 s m #[.ref b] below meth c H locs cells slots Qf (F0 m 847 ls []) := by
  obtain ⟨⟨hx, hb, hr, hml, hown, hts, hXx, hbl, hlocks, hgv⟩, hlt, hK, hZ0, hZx, hLD⟩ := id K
  have ht : ∀ w ∈ xtb, w.before #[Value.ref b] s = true := fun w h => hts w (List.mem_filter.mp h).1
  refine lv_aload_n hx hb dL_law_847 rfl (lv_at hl 1 rfl) ?_
  refine law_C K XX [] [] dL_law_848 zX9_fall mlL_101 rfl rfl rfl (fun _ => rfl) rfl (Nat.le_of_ble_eq_true rfl) (Nat.le_of_ble_eq_true rfl) hl.1 ⟨by decide, by decide⟩ ⟨by omega, by omega⟩ (cl_fall hX hC (fun MC2 hC H1 locs1 XX => ?_))
  refine lv_aload_n hx hb dL_law_851 rfl (lv_at hl 2 rfl) ?_
  refine law_M K XX [] [.int _] dL_law_852 zX10_fall mlL_104 rfl rfl rfl (fun _ => rfl) rfl (Nat.le_of_ble_eq_true rfl) (Nat.le_of_ble_eq_true rfl) hl.1 ⟨by decide, by decide⟩ ⟨by omega, by omega⟩ (mo_fall hX hM (fun MM2 hM H1 locs1 XX => ?_))
  refine lv_icmp_eq (tgt := 1562) hx hb dL_law_855 (by decide) (fun _ => ?_) (fun z => absurd rfl z)
  refine W.widen (k := cells + 1) (n := slots + 6) (by omega) (by omega) ?_
  exact fin _ _ _ _ _ _ _ hX hC hM XX hl
set_option maxHeartbeats 4000000 in
set_option maxRecDepth 100000 in
theorem lc_act {p : Program} {l : Launch} {e : Env} {s : State} {m : MethodId} {below : List Frame} {meth : Method} {c : Code} {b L : Nat} {xs : Nat → Int32} {D : va_G} {cA : Nat → ClassId} {adC adM : Nat → Nat} {o : Nat} {MC MM : xM} {f : Nat → Int64} {H : Heap} {locs : List Loc} {Qf : State → Prop} {cells slots i : Nat} {ls : Array Slot} {X : xX} (K : LK p l s m meth c b L xs D cA adC adM o) (hX : wX X) (hC : RepC X MC) (hM : RepM X MM) (XX : LH D cA adC adM o s MC MM f H locs) (hL : L < 2 ^ 31) (hi : i + 6 ≤ L) (hcs : cells + 1 ≤ 601024 ∧ slots + 6 ≤ 7293034) (hl : lv_has ls 8 (lvL b adC adM o i)) (fin : LF p l e s m below meth c b D cA adC adM o Qf cells slots i) : W p l e room_1 s m #[.ref b] below meth c H locs cells slots Qf (F0 m 860 ls []) := by
  obtain ⟨⟨hx, hb, hr, hml, hown, hts, hXx, hbl, hlocks, hgv⟩, hlt, hK, hZ0, hZx, hLD⟩ := id K
  have ht : ∀ w ∈ xtb, w.before #[Value.ref b] s = true := fun w h => hts w (List.mem_filter.mp h).1
  refine lv_aload_n hx hb dL_law_860 rfl (lv_at hl 1 rfl) ?_
  refine law_arg K XX.2.2.2 (i := i) (j := 1) (a0 := 0) (a4 := 4) hl rfl rfl hL (by omega) (by decide) dL_law_861 dL_law_862 dL_law_864 dL_law_865 dL_law_866 ?_
  refine law_arg K XX.2.2.2 (i := i) (j := 2) (a0 := 0) (a4 := 4) hl rfl rfl hL (by omega) (by decide) dL_law_867 dL_law_868 dL_law_870 dL_law_871 dL_law_872 ?_
  refine law_C K XX [.int (xs (i + 1)), .int (xs (i + 2))] [] dL_law_873 zX9_act mlL_105 rfl rfl rfl (fun _ => rfl) rfl (Nat.le_of_ble_eq_true rfl) (Nat.le_of_ble_eq_true rfl) hl.1 ⟨by decide, by decide⟩ ⟨by omega, by omega⟩ (cl_act hX hC _ _ (fun H1 locs1 XX => ?_))
  refine lv_aload_n hx hb dL_law_876 rfl (lv_at hl 2 rfl) ?_
  refine law_arg K XX.2.2.2 (i := i) (j := 1) (a0 := 0) (a4 := 4) hl rfl rfl hL (by omega) (by decide) dL_law_877 dL_law_878 dL_law_880 dL_law_881 dL_law_882 ?_
  refine law_arg K XX.2.2.2 (i := i) (j := 2) (a0 := 0) (a4 := 4) hl rfl rfl hL (by omega) (by decide) dL_law_883 dL_law_884 dL_law_886 dL_law_887 dL_law_888 ?_
  refine law_M K XX [.int (xs (i + 1)), .int (xs (i + 2))] [.int _] dL_law_889 zX10_act mlL_108 rfl rfl rfl (fun _ => rfl) rfl (Nat.le_of_ble_eq_true rfl) (Nat.le_of_ble_eq_true rfl) hl.1 ⟨by decide, by decide⟩ ⟨by omega, by omega⟩ (mo_act hX hM _ _ (fun H1 locs1 XX => ?_))
  refine lv_icmp_eq (tgt := 1562) hx hb dL_law_892 (by decide) (fun _ => ?_) (fun z => absurd rfl z)
  refine W.widen (k := cells + 1) (n := slots + 6) (by omega) (by omega) ?_
  exact fin _ _ _ _ _ _ _ hX hC hM XX hl
set_option maxHeartbeats 4000000 in
set_option maxRecDepth 100000 in
theorem lc_hit {p : Program} {l : Launch} {e : Env} {s : State} {m : MethodId} {below : List Frame} {meth : Method} {c : Code} {b L : Nat} {xs : Nat → Int32} {D : va_G} {cA : Nat → ClassId} {adC adM : Nat → Nat} {o : Nat} {MC MM : xM} {f : Nat → Int64} {H : Heap} {locs : List Loc} {Qf : State → Prop} {cells slots i : Nat} {ls : Array Slot} {X : xX} (K : LK p l s m meth c b L xs D cA adC adM o) (hX : wX X) (hC : RepC X MC) (hM : RepM X MM) (XX : LH D cA adC adM o s MC MM f H locs) (hL : L < 2 ^ 31) (hi : i + 6 ≤ L) (hcs : cells + 1 ≤ 601024 ∧ slots + 6 ≤ 7293034) (hl : lv_has ls 8 (lvL b adC adM o i)) (fin : LF p l e s m below meth c b D cA adC adM o Qf cells slots i) : W p l e room_1 s m #[.ref b] below meth c H locs cells slots Qf (F0 m 897 ls []) := by
  obtain ⟨⟨hx, hb, hr, hml, hown, hts, hXx, hbl, hlocks, hgv⟩, hlt, hK, hZ0, hZx, hLD⟩ := id K
  have ht : ∀ w ∈ xtb, w.before #[Value.ref b] s = true := fun w h => hts w (List.mem_filter.mp h).1
  refine lv_aload_n hx hb dL_law_897 rfl (lv_at hl 1 rfl) ?_
  refine law_arg K XX.2.2.2 (i := i) (j := 1) (a0 := 0) (a4 := 4) hl rfl rfl hL (by omega) (by decide) dL_law_898 dL_law_899 dL_law_901 dL_law_902 dL_law_903 ?_
  refine law_arg K XX.2.2.2 (i := i) (j := 2) (a0 := 0) (a4 := 4) hl rfl rfl hL (by omega) (by decide) dL_law_904 dL_law_905 dL_law_907 dL_law_908 dL_law_909 ?_
  refine law_C K XX [.int (xs (i + 1)), .int (xs (i + 2))] [] dL_law_910 zX9_hit mlL_109 rfl rfl rfl (fun _ => rfl) rfl (Nat.le_of_ble_eq_true rfl) (Nat.le_of_ble_eq_true rfl) hl.1 ⟨by decide, by decide⟩ ⟨by omega, by omega⟩ (cl_hit hX hC _ _ (fun H1 locs1 XX => ?_))
  refine lv_aload_n hx hb dL_law_913 rfl (lv_at hl 2 rfl) ?_
  refine law_arg K XX.2.2.2 (i := i) (j := 1) (a0 := 0) (a4 := 4) hl rfl rfl hL (by omega) (by decide) dL_law_914 dL_law_915 dL_law_917 dL_law_918 dL_law_919 ?_
  refine law_arg K XX.2.2.2 (i := i) (j := 2) (a0 := 0) (a4 := 4) hl rfl rfl hL (by omega) (by decide) dL_law_920 dL_law_921 dL_law_923 dL_law_924 dL_law_925 ?_
  refine law_M K XX [.int (xs (i + 1)), .int (xs (i + 2))] [.int _] dL_law_926 zX10_hit mlL_112 rfl rfl rfl (fun _ => rfl) rfl (Nat.le_of_ble_eq_true rfl) (Nat.le_of_ble_eq_true rfl) hl.1 ⟨by decide, by decide⟩ ⟨by omega, by omega⟩ (mo_hit hX hM _ _ (fun H1 locs1 XX => ?_))
  refine lv_icmp_eq (tgt := 1562) hx hb dL_law_929 (by decide) (fun _ => ?_) (fun z => absurd rfl z)
  refine W.widen (k := cells + 1) (n := slots + 6) (by omega) (by omega) ?_
  exact fin _ _ _ _ _ _ _ hX hC hM XX hl
set_option maxHeartbeats 4000000 in
set_option maxRecDepth 100000 in
theorem lc_taken {p : Program} {l : Launch} {e : Env} {s : State} {m : MethodId} {below : List Frame} {meth : Method} {c : Code} {b L : Nat} {xs : Nat → Int32} {D : va_G} {cA : Nat → ClassId} {adC adM : Nat → Nat} {o : Nat} {MC MM : xM} {f : Nat → Int64} {H : Heap} {locs : List Loc} {Qf : State → Prop} {cells slots i : Nat} {ls : Array Slot} {X : xX} (K : LK p l s m meth c b L xs D cA adC adM o) (hX : wX X) (hC : RepC X MC) (hM : RepM X MM) (XX : LH D cA adC adM o s MC MM f H locs) (hL : L < 2 ^ 31) (hi : i + 6 ≤ L) (hcs : cells + 1 ≤ 601024 ∧ slots + 6 ≤ 7293034) (hl : lv_has ls 8 (lvL b adC adM o i)) (fin : LF p l e s m below meth c b D cA adC adM o Qf cells slots i) : W p l e room_1 s m #[.ref b] below meth c H locs cells slots Qf (F0 m 934 ls []) := by
  obtain ⟨⟨hx, hb, hr, hml, hown, hts, hXx, hbl, hlocks, hgv⟩, hlt, hK, hZ0, hZx, hLD⟩ := id K
  have ht : ∀ w ∈ xtb, w.before #[Value.ref b] s = true := fun w h => hts w (List.mem_filter.mp h).1
  refine lv_aload_n hx hb dL_law_934 rfl (lv_at hl 1 rfl) ?_
  refine law_arg K XX.2.2.2 (i := i) (j := 1) (a0 := 0) (a4 := 4) hl rfl rfl hL (by omega) (by decide) dL_law_935 dL_law_936 dL_law_938 dL_law_939 dL_law_940 ?_
  refine law_arg K XX.2.2.2 (i := i) (j := 2) (a0 := 0) (a4 := 4) hl rfl rfl hL (by omega) (by decide) dL_law_941 dL_law_942 dL_law_944 dL_law_945 dL_law_946 ?_
  refine law_C K XX [.int (xs (i + 1)), .int (xs (i + 2))] [] dL_law_947 zX9_taken mlL_113 rfl rfl rfl (fun _ => rfl) rfl (Nat.le_of_ble_eq_true rfl) (Nat.le_of_ble_eq_true rfl) hl.1 ⟨by decide, by decide⟩ ⟨by omega, by omega⟩ (cl_taken hX hC _ _ (fun H1 locs1 XX => ?_))
  refine lv_aload_n hx hb dL_law_950 rfl (lv_at hl 2 rfl) ?_
  refine law_arg K XX.2.2.2 (i := i) (j := 1) (a0 := 0) (a4 := 4) hl rfl rfl hL (by omega) (by decide) dL_law_951 dL_law_952 dL_law_954 dL_law_955 dL_law_956 ?_
  refine law_arg K XX.2.2.2 (i := i) (j := 2) (a0 := 0) (a4 := 4) hl rfl rfl hL (by omega) (by decide) dL_law_957 dL_law_958 dL_law_960 dL_law_961 dL_law_962 ?_
  refine law_M K XX [.int (xs (i + 1)), .int (xs (i + 2))] [.int _] dL_law_963 zX10_taken mlL_116 rfl rfl rfl (fun _ => rfl) rfl (Nat.le_of_ble_eq_true rfl) (Nat.le_of_ble_eq_true rfl) hl.1 ⟨by decide, by decide⟩ ⟨by omega, by omega⟩ (mo_taken hX hM _ _ (fun H1 locs1 XX => ?_))
  refine lv_icmp_eq (tgt := 1562) hx hb dL_law_966 (by decide) (fun _ => ?_) (fun z => absurd rfl z)
  refine W.widen (k := cells + 1) (n := slots + 6) (by omega) (by omega) ?_
  exact fin _ _ _ _ _ _ _ hX hC hM XX hl
set_option maxHeartbeats 4000000 in
set_option maxRecDepth 100000 in
theorem lc_back {p : Program} {l : Launch} {e : Env} {s : State} {m : MethodId} {below : List Frame} {meth : Method} {c : Code} {b L : Nat} {xs : Nat → Int32} {D : va_G} {cA : Nat → ClassId} {adC adM : Nat → Nat} {o : Nat} {MC MM : xM} {f : Nat → Int64} {H : Heap} {locs : List Loc} {Qf : State → Prop} {cells slots i : Nat} {ls : Array Slot} {X : xX} (K : LK p l s m meth c b L xs D cA adC adM o) (hX : wX X) (hC : RepC X MC) (hM : RepM X MM) (XX : LH D cA adC adM o s MC MM f H locs) (hL : L < 2 ^ 31) (hi : i + 6 ≤ L) (hcs : cells + 1 ≤ 601024 ∧ slots + 6 ≤ 7293034) (hl : lv_has ls 8 (lvL b adC adM o i)) (fin : LF p l e s m below meth c b D cA adC adM o Qf cells slots i) : W p l e room_1 s m #[.ref b] below meth c H locs cells slots Qf (F0 m 971 ls []) := by
  obtain ⟨⟨hx, hb, hr, hml, hown, hts, hXx, hbl, hlocks, hgv⟩, hlt, hK, hZ0, hZx, hLD⟩ := id K
  have ht : ∀ w ∈ xtb, w.before #[Value.ref b] s = true := fun w h => hts w (List.mem_filter.mp h).1
  refine lv_aload_n hx hb dL_law_971 rfl (lv_at hl 1 rfl) ?_
  refine law_arg K XX.2.2.2 (i := i) (j := 1) (a0 := 0) (a4 := 4) hl rfl rfl hL (by omega) (by decide) dL_law_972 dL_law_973 dL_law_975 dL_law_976 dL_law_977 ?_
  refine law_C K XX [.int (xs (i + 1))] [] dL_law_978 zX9_back mlL_117 rfl rfl rfl (fun _ => rfl) rfl (Nat.le_of_ble_eq_true rfl) (Nat.le_of_ble_eq_true rfl) hl.1 ⟨by decide, by decide⟩ ⟨by omega, by omega⟩ (cl_back hX hC _ (fun H1 locs1 XX => ?_))
  refine lv_aload_n hx hb dL_law_981 rfl (lv_at hl 2 rfl) ?_
  refine law_arg K XX.2.2.2 (i := i) (j := 1) (a0 := 0) (a4 := 4) hl rfl rfl hL (by omega) (by decide) dL_law_982 dL_law_983 dL_law_985 dL_law_986 dL_law_987 ?_
  refine law_M K XX [.int (xs (i + 1))] [.int _] dL_law_988 zX10_back mlL_120 rfl rfl rfl (fun _ => rfl) rfl (Nat.le_of_ble_eq_true rfl) (Nat.le_of_ble_eq_true rfl) hl.1 ⟨by decide, by decide⟩ ⟨by omega, by omega⟩ (mo_back hX hM _ (fun H1 locs1 XX => ?_))
  refine lv_icmp_eq (tgt := 1562) hx hb dL_law_991 (by decide) (fun _ => ?_) (fun z => absurd rfl z)
  refine W.widen (k := cells + 1) (n := slots + 6) (by omega) (by omega) ?_
  exact fin _ _ _ _ _ _ _ hX hC hM XX hl
set_option maxHeartbeats 4000000 in
set_option maxRecDepth 100000 in
theorem lc_watch {p : Program} {l : Launch} {e : Env} {s : State} {m : MethodId} {below : List Frame} {meth : Method} {c : Code} {b L : Nat} {xs : Nat → Int32} {D : va_G} {cA : Nat → ClassId} {adC adM : Nat → Nat} {o : Nat} {MC MM : xM} {f : Nat → Int64} {H : Heap} {locs : List Loc} {Qf : State → Prop} {cells slots i : Nat} {ls : Array Slot} {X : xX} (K : LK p l s m meth c b L xs D cA adC adM o) (hX : wX X) (hC : RepC X MC) (hM : RepM X MM) (XX : LH D cA adC adM o s MC MM f H locs) (hL : L < 2 ^ 31) (hi : i + 6 ≤ L) (hcs : cells + 1 ≤ 601024 ∧ slots + 6 ≤ 7293034) (hl : lv_has ls 8 (lvL b adC adM o i)) (fin : LF p l e s m below meth c b D cA adC adM o Qf cells slots i) : W p l e room_1 s m #[.ref b] below meth c H locs cells slots Qf (F0 m 996 ls []) := by
  obtain ⟨⟨hx, hb, hr, hml, hown, hts, hXx, hbl, hlocks, hgv⟩, hlt, hK, hZ0, hZx, hLD⟩ := id K
  have ht : ∀ w ∈ xtb, w.before #[Value.ref b] s = true := fun w h => hts w (List.mem_filter.mp h).1
  refine lv_aload_n hx hb dL_law_996 rfl (lv_at hl 1 rfl) ?_
  refine law_arg K XX.2.2.2 (i := i) (j := 1) (a0 := 0) (a4 := 4) hl rfl rfl hL (by omega) (by decide) dL_law_997 dL_law_998 dL_law_1000 dL_law_1001 dL_law_1002 ?_
  refine law_arg K XX.2.2.2 (i := i) (j := 2) (a0 := 0) (a4 := 4) hl rfl rfl hL (by omega) (by decide) dL_law_1003 dL_law_1004 dL_law_1006 dL_law_1007 dL_law_1008 ?_
  refine law_arg K XX.2.2.2 (i := i) (j := 3) (a0 := 0) (a4 := 4) hl rfl rfl hL (by omega) (by decide) dL_law_1009 dL_law_1010 dL_law_1012 dL_law_1013 dL_law_1014 ?_
  refine law_C K XX [.int (xs (i + 1)), .int (xs (i + 2)), .int (xs (i + 3))] [] dL_law_1015 zX9_watch mlL_121 rfl rfl rfl (fun _ => rfl) rfl (Nat.le_of_ble_eq_true rfl) (Nat.le_of_ble_eq_true rfl) hl.1 ⟨by decide, by decide⟩ ⟨by omega, by omega⟩ (cl_watch hX hC _ _ _ (fun H1 locs1 XX => ?_))
  refine lv_aload_n hx hb dL_law_1018 rfl (lv_at hl 2 rfl) ?_
  refine law_arg K XX.2.2.2 (i := i) (j := 1) (a0 := 0) (a4 := 4) hl rfl rfl hL (by omega) (by decide) dL_law_1019 dL_law_1020 dL_law_1022 dL_law_1023 dL_law_1024 ?_
  refine law_arg K XX.2.2.2 (i := i) (j := 2) (a0 := 0) (a4 := 4) hl rfl rfl hL (by omega) (by decide) dL_law_1025 dL_law_1026 dL_law_1028 dL_law_1029 dL_law_1030 ?_
  refine law_arg K XX.2.2.2 (i := i) (j := 3) (a0 := 0) (a4 := 4) hl rfl rfl hL (by omega) (by decide) dL_law_1031 dL_law_1032 dL_law_1034 dL_law_1035 dL_law_1036 ?_
  refine law_M K XX [.int (xs (i + 1)), .int (xs (i + 2)), .int (xs (i + 3))] [.int _] dL_law_1037 zX10_watch mlL_124 rfl rfl rfl (fun _ => rfl) rfl (Nat.le_of_ble_eq_true rfl) (Nat.le_of_ble_eq_true rfl) hl.1 ⟨by decide, by decide⟩ ⟨by omega, by omega⟩ (mo_watch hX hM _ _ _ (fun H1 locs1 XX => ?_))
  refine lv_icmp_eq (tgt := 1562) hx hb dL_law_1040 (by decide) (fun _ => ?_) (fun z => absurd rfl z)
  refine W.widen (k := cells + 1) (n := slots + 6) (by omega) (by omega) ?_
  exact fin _ _ _ _ _ _ _ hX hC hM XX hl
set_option maxHeartbeats 4000000 in
set_option maxRecDepth 100000 in
theorem lc_fair {p : Program} {l : Launch} {e : Env} {s : State} {m : MethodId} {below : List Frame} {meth : Method} {c : Code} {b L : Nat} {xs : Nat → Int32} {D : va_G} {cA : Nat → ClassId} {adC adM : Nat → Nat} {o : Nat} {MC MM : xM} {f : Nat → Int64} {H : Heap} {locs : List Loc} {Qf : State → Prop} {cells slots i : Nat} {ls : Array Slot} {X : xX} (K : LK p l s m meth c b L xs D cA adC adM o) (hX : wX X) (hC : RepC X MC) (hM : RepM X MM) (XX : LH D cA adC adM o s MC MM f H locs) (hL : L < 2 ^ 31) (hi : i + 6 ≤ L) (hcs : cells + 1 ≤ 601024 ∧ slots + 6 ≤ 7293034) (hl : lv_has ls 8 (lvL b adC adM o i)) (fin : LF p l e s m below meth c b D cA adC adM o Qf cells slots i) : W p l e room_1 s m #[.ref b] below meth c H locs cells slots Qf (F0 m 1045 ls []) := by
  obtain ⟨⟨hx, hb, hr, hml, hown, hts, hXx, hbl, hlocks, hgv⟩, hlt, hK, hZ0, hZx, hLD⟩ := id K
  have ht : ∀ w ∈ xtb, w.before #[Value.ref b] s = true := fun w h => hts w (List.mem_filter.mp h).1
  refine lv_aload_n hx hb dL_law_1045 rfl (lv_at hl 1 rfl) ?_
  refine law_arg K XX.2.2.2 (i := i) (j := 1) (a0 := 0) (a4 := 4) hl rfl rfl hL (by omega) (by decide) dL_law_1046 dL_law_1047 dL_law_1049 dL_law_1050 dL_law_1051 ?_
  refine law_arg K XX.2.2.2 (i := i) (j := 2) (a0 := 0) (a4 := 4) hl rfl rfl hL (by omega) (by decide) dL_law_1052 dL_law_1053 dL_law_1055 dL_law_1056 dL_law_1057 ?_
  refine law_C K XX [.int (xs (i + 1)), .int (xs (i + 2))] [] dL_law_1058 zX9_fair mlL_125 rfl rfl rfl (fun _ => rfl) rfl (Nat.le_of_ble_eq_true rfl) (Nat.le_of_ble_eq_true rfl) hl.1 ⟨by decide, by decide⟩ ⟨by omega, by omega⟩ (cl_fair hX hC _ _ (fun H1 locs1 XX => ?_))
  refine lv_aload_n hx hb dL_law_1061 rfl (lv_at hl 2 rfl) ?_
  refine law_arg K XX.2.2.2 (i := i) (j := 1) (a0 := 0) (a4 := 4) hl rfl rfl hL (by omega) (by decide) dL_law_1062 dL_law_1063 dL_law_1065 dL_law_1066 dL_law_1067 ?_
  refine law_arg K XX.2.2.2 (i := i) (j := 2) (a0 := 0) (a4 := 4) hl rfl rfl hL (by omega) (by decide) dL_law_1068 dL_law_1069 dL_law_1071 dL_law_1072 dL_law_1073 ?_
  refine law_M K XX [.int (xs (i + 1)), .int (xs (i + 2))] [.int _] dL_law_1074 zX10_fair mlL_128 rfl rfl rfl (fun _ => rfl) rfl (Nat.le_of_ble_eq_true rfl) (Nat.le_of_ble_eq_true rfl) hl.1 ⟨by decide, by decide⟩ ⟨by omega, by omega⟩ (mo_fair hX hM _ _ (fun H1 locs1 XX => ?_))
  refine lv_icmp_eq (tgt := 1562) hx hb dL_law_1077 (by decide) (fun _ => ?_) (fun z => absurd rfl z)
  refine W.widen (k := cells + 1) (n := slots + 6) (by omega) (by omega) ?_
  exact fin _ _ _ _ _ _ _ hX hC hM XX hl
set_option maxHeartbeats 4000000 in
set_option maxRecDepth 100000 in
theorem lc_tape {p : Program} {l : Launch} {e : Env} {s : State} {m : MethodId} {below : List Frame} {meth : Method} {c : Code} {b L : Nat} {xs : Nat → Int32} {D : va_G} {cA : Nat → ClassId} {adC adM : Nat → Nat} {o : Nat} {MC MM : xM} {f : Nat → Int64} {H : Heap} {locs : List Loc} {Qf : State → Prop} {cells slots i : Nat} {ls : Array Slot} {X : xX} (K : LK p l s m meth c b L xs D cA adC adM o) (hX : wX X) (hC : RepC X MC) (hM : RepM X MM) (XX : LH D cA adC adM o s MC MM f H locs) (hL : L < 2 ^ 31) (hi : i + 6 ≤ L) (hcs : cells + 1 ≤ 601024 ∧ slots + 6 ≤ 7293034) (hl : lv_has ls 8 (lvL b adC adM o i)) (fin : LF p l e s m below meth c b D cA adC adM o Qf cells slots i) : W p l e room_1 s m #[.ref b] below meth c H locs cells slots Qf (F0 m 1082 ls []) := by
  obtain ⟨⟨hx, hb, hr, hml, hown, hts, hXx, hbl, hlocks, hgv⟩, hlt, hK, hZ0, hZx, hLD⟩ := id K
  have ht : ∀ w ∈ xtb, w.before #[Value.ref b] s = true := fun w h => hts w (List.mem_filter.mp h).1
  refine lv_aload_n hx hb dL_law_1082 rfl (lv_at hl 1 rfl) ?_
  refine law_arg K XX.2.2.2 (i := i) (j := 1) (a0 := 0) (a4 := 4) hl rfl rfl hL (by omega) (by decide) dL_law_1083 dL_law_1084 dL_law_1086 dL_law_1087 dL_law_1088 ?_
  refine law_arg K XX.2.2.2 (i := i) (j := 2) (a0 := 0) (a4 := 4) hl rfl rfl hL (by omega) (by decide) dL_law_1089 dL_law_1090 dL_law_1092 dL_law_1093 dL_law_1094 ?_
  refine law_arg K XX.2.2.2 (i := i) (j := 3) (a0 := 0) (a4 := 4) hl rfl rfl hL (by omega) (by decide) dL_law_1095 dL_law_1096 dL_law_1098 dL_law_1099 dL_law_1100 ?_
  refine law_C K XX [.int (xs (i + 1)), .int (xs (i + 2)), .int (xs (i + 3))] [] dL_law_1101 zX9_tape mlL_129 rfl rfl rfl (fun _ => rfl) rfl (Nat.le_of_ble_eq_true rfl) (Nat.le_of_ble_eq_true rfl) hl.1 ⟨by decide, by decide⟩ ⟨by omega, by omega⟩ (cl_tape hX hC _ _ _ (fun MC2 hC H1 locs1 XX => ?_))
  refine lv_aload_n hx hb dL_law_1104 rfl (lv_at hl 2 rfl) ?_
  refine law_arg K XX.2.2.2 (i := i) (j := 1) (a0 := 0) (a4 := 4) hl rfl rfl hL (by omega) (by decide) dL_law_1105 dL_law_1106 dL_law_1108 dL_law_1109 dL_law_1110 ?_
  refine law_arg K XX.2.2.2 (i := i) (j := 2) (a0 := 0) (a4 := 4) hl rfl rfl hL (by omega) (by decide) dL_law_1111 dL_law_1112 dL_law_1114 dL_law_1115 dL_law_1116 ?_
  refine law_arg K XX.2.2.2 (i := i) (j := 3) (a0 := 0) (a4 := 4) hl rfl rfl hL (by omega) (by decide) dL_law_1117 dL_law_1118 dL_law_1120 dL_law_1121 dL_law_1122 ?_
  refine law_M K XX [.int (xs (i + 1)), .int (xs (i + 2)), .int (xs (i + 3))] [.int _] dL_law_1123 zX10_tape mlL_132 rfl rfl rfl (fun _ => rfl) rfl (Nat.le_of_ble_eq_true rfl) (Nat.le_of_ble_eq_true rfl) hl.1 ⟨by decide, by decide⟩ ⟨by omega, by omega⟩ (mo_tape hX hM _ _ _ (fun MM2 hM H1 locs1 XX => ?_))
  refine lv_icmp_eq (tgt := 1562) hx hb dL_law_1126 (by decide) (fun _ => ?_) (fun z => absurd rfl z)
  refine W.widen (k := cells + 1) (n := slots + 6) (by omega) (by omega) ?_
  exact fin _ _ _ _ _ _ _ (wx_tape hX _ _ _) hC hM XX hl
set_option maxHeartbeats 4000000 in
set_option maxRecDepth 100000 in
theorem lc_view {p : Program} {l : Launch} {e : Env} {s : State} {m : MethodId} {below : List Frame} {meth : Method} {c : Code} {b L : Nat} {xs : Nat → Int32} {D : va_G} {cA : Nat → ClassId} {adC adM : Nat → Nat} {o : Nat} {MC MM : xM} {f : Nat → Int64} {H : Heap} {locs : List Loc} {Qf : State → Prop} {cells slots i : Nat} {ls : Array Slot} {X : xX} (K : LK p l s m meth c b L xs D cA adC adM o) (hX : wX X) (hC : RepC X MC) (hM : RepM X MM) (XX : LH D cA adC adM o s MC MM f H locs) (hL : L < 2 ^ 31) (hi : i + 6 ≤ L) (hcs : cells + 1 ≤ 601024 ∧ slots + 6 ≤ 7293034) (hl : lv_has ls 8 (lvL b adC adM o i)) (fin : LF p l e s m below meth c b D cA adC adM o Qf cells slots i) : W p l e room_1 s m #[.ref b] below meth c H locs cells slots Qf (F0 m 1131 ls []) := by
  obtain ⟨⟨hx, hb, hr, hml, hown, hts, hXx, hbl, hlocks, hgv⟩, hlt, hK, hZ0, hZx, hLD⟩ := id K
  have ht : ∀ w ∈ xtb, w.before #[Value.ref b] s = true := fun w h => hts w (List.mem_filter.mp h).1
  refine lv_aload_n hx hb dL_law_1131 rfl (lv_at hl 1 rfl) ?_
  refine law_arg K XX.2.2.2 (i := i) (j := 1) (a0 := 0) (a4 := 4) hl rfl rfl hL (by omega) (by decide) dL_law_1132 dL_law_1133 dL_law_1135 dL_law_1136 dL_law_1137 ?_
  refine law_arg K XX.2.2.2 (i := i) (j := 2) (a0 := 0) (a4 := 4) hl rfl rfl hL (by omega) (by decide) dL_law_1138 dL_law_1139 dL_law_1141 dL_law_1142 dL_law_1143 ?_
  refine law_C K XX [.int (xs (i + 1)), .int (xs (i + 2))] [] dL_law_1144 zX9_view mlL_133 rfl rfl rfl (fun _ => rfl) rfl (Nat.le_of_ble_eq_true rfl) (Nat.le_of_ble_eq_true rfl) hl.1 ⟨by decide, by decide⟩ ⟨by omega, by omega⟩ (cl_view hX hC _ _ (fun MC2 hC H1 locs1 XX => ?_))
  refine lv_aload_n hx hb dL_law_1147 rfl (lv_at hl 2 rfl) ?_
  refine law_arg K XX.2.2.2 (i := i) (j := 1) (a0 := 0) (a4 := 4) hl rfl rfl hL (by omega) (by decide) dL_law_1148 dL_law_1149 dL_law_1151 dL_law_1152 dL_law_1153 ?_
  refine law_arg K XX.2.2.2 (i := i) (j := 2) (a0 := 0) (a4 := 4) hl rfl rfl hL (by omega) (by decide) dL_law_1154 dL_law_1155 dL_law_1157 dL_law_1158 dL_law_1159 ?_
  refine law_M K XX [.int (xs (i + 1)), .int (xs (i + 2))] [.int _] dL_law_1160 zX10_view mlL_136 rfl rfl rfl (fun _ => rfl) rfl (Nat.le_of_ble_eq_true rfl) (Nat.le_of_ble_eq_true rfl) hl.1 ⟨by decide, by decide⟩ ⟨by omega, by omega⟩ (mo_view hX hM _ _ (fun MM2 hM H1 locs1 XX => ?_))
  refine lv_icmp_eq (tgt := 1562) hx hb dL_law_1163 (by decide) (fun _ => ?_) (fun z => absurd rfl z)
  refine W.widen (k := cells + 1) (n := slots + 6) (by omega) (by omega) ?_
  exact fin _ _ _ _ _ _ _ (wx_view hX _ _) hC hM XX hl
set_option maxHeartbeats 4000000 in
set_option maxRecDepth 100000 in
theorem lc_clear {p : Program} {l : Launch} {e : Env} {s : State} {m : MethodId} {below : List Frame} {meth : Method} {c : Code} {b L : Nat} {xs : Nat → Int32} {D : va_G} {cA : Nat → ClassId} {adC adM : Nat → Nat} {o : Nat} {MC MM : xM} {f : Nat → Int64} {H : Heap} {locs : List Loc} {Qf : State → Prop} {cells slots i : Nat} {ls : Array Slot} {X : xX} (K : LK p l s m meth c b L xs D cA adC adM o) (hX : wX X) (hC : RepC X MC) (hM : RepM X MM) (XX : LH D cA adC adM o s MC MM f H locs) (hL : L < 2 ^ 31) (hi : i + 6 ≤ L) (hcs : cells + 1 ≤ 601024 ∧ slots + 6 ≤ 7293034) (hl : lv_has ls 8 (lvL b adC adM o i)) (fin : LF p l e s m below meth c b D cA adC adM o Qf cells slots i) : W p l e room_1 s m #[.ref b] below meth c H locs cells slots Qf (F0 m 1168 ls []) := by
  obtain ⟨⟨hx, hb, hr, hml, hown, hts, hXx, hbl, hlocks, hgv⟩, hlt, hK, hZ0, hZx, hLD⟩ := id K
  have ht : ∀ w ∈ xtb, w.before #[Value.ref b] s = true := fun w h => hts w (List.mem_filter.mp h).1
  refine lv_aload_n hx hb dL_law_1168 rfl (lv_at hl 1 rfl) ?_
  refine law_arg K XX.2.2.2 (i := i) (j := 1) (a0 := 0) (a4 := 4) hl rfl rfl hL (by omega) (by decide) dL_law_1169 dL_law_1170 dL_law_1172 dL_law_1173 dL_law_1174 ?_
  refine law_C K XX [.int (xs (i + 1))] [] dL_law_1175 zX9_clear mlL_137 rfl rfl rfl (fun _ => rfl) rfl (Nat.le_of_ble_eq_true rfl) (Nat.le_of_ble_eq_true rfl) hl.1 ⟨by decide, by decide⟩ ⟨by omega, by omega⟩ (cl_clear hX hC _ (fun MC2 hC H1 locs1 XX => ?_))
  refine lv_aload_n hx hb dL_law_1178 rfl (lv_at hl 2 rfl) ?_
  refine law_arg K XX.2.2.2 (i := i) (j := 1) (a0 := 0) (a4 := 4) hl rfl rfl hL (by omega) (by decide) dL_law_1179 dL_law_1180 dL_law_1182 dL_law_1183 dL_law_1184 ?_
  refine law_M K XX [.int (xs (i + 1))] [.int _] dL_law_1185 zX10_clear mlL_140 rfl rfl rfl (fun _ => rfl) rfl (Nat.le_of_ble_eq_true rfl) (Nat.le_of_ble_eq_true rfl) hl.1 ⟨by decide, by decide⟩ ⟨by omega, by omega⟩ (mo_clear hX hM _ (fun MM2 hM H1 locs1 XX => ?_))
  refine lv_icmp_eq (tgt := 1562) hx hb dL_law_1188 (by decide) (fun _ => ?_) (fun z => absurd rfl z)
  refine W.widen (k := cells + 1) (n := slots + 6) (by omega) (by omega) ?_
  exact fin _ _ _ _ _ _ _ (wx_clear hX _) hC hM XX hl
set_option maxHeartbeats 4000000 in
set_option maxRecDepth 100000 in
theorem lc_put {p : Program} {l : Launch} {e : Env} {s : State} {m : MethodId} {below : List Frame} {meth : Method} {c : Code} {b L : Nat} {xs : Nat → Int32} {D : va_G} {cA : Nat → ClassId} {adC adM : Nat → Nat} {o : Nat} {MC MM : xM} {f : Nat → Int64} {H : Heap} {locs : List Loc} {Qf : State → Prop} {cells slots i : Nat} {ls : Array Slot} {X : xX} (K : LK p l s m meth c b L xs D cA adC adM o) (hX : wX X) (hC : RepC X MC) (hM : RepM X MM) (XX : LH D cA adC adM o s MC MM f H locs) (hL : L < 2 ^ 31) (hi : i + 6 ≤ L) (hcs : cells + 1 ≤ 601024 ∧ slots + 6 ≤ 7293034) (hl : lv_has ls 8 (lvL b adC adM o i)) (fin : LF p l e s m below meth c b D cA adC adM o Qf cells slots i) : W p l e room_1 s m #[.ref b] below meth c H locs cells slots Qf (F0 m 1193 ls []) := by
  obtain ⟨⟨hx, hb, hr, hml, hown, hts, hXx, hbl, hlocks, hgv⟩, hlt, hK, hZ0, hZx, hLD⟩ := id K
  have ht : ∀ w ∈ xtb, w.before #[Value.ref b] s = true := fun w h => hts w (List.mem_filter.mp h).1
  refine lv_aload_n hx hb dL_law_1193 rfl (lv_at hl 1 rfl) ?_
  refine law_arg K XX.2.2.2 (i := i) (j := 1) (a0 := 0) (a4 := 4) hl rfl rfl hL (by omega) (by decide) dL_law_1194 dL_law_1195 dL_law_1197 dL_law_1198 dL_law_1199 ?_
  refine law_arg K XX.2.2.2 (i := i) (j := 2) (a0 := 0) (a4 := 4) hl rfl rfl hL (by omega) (by decide) dL_law_1200 dL_law_1201 dL_law_1203 dL_law_1204 dL_law_1205 ?_
  refine law_arg K XX.2.2.2 (i := i) (j := 3) (a0 := 0) (a4 := 4) hl rfl rfl hL (by omega) (by decide) dL_law_1206 dL_law_1207 dL_law_1209 dL_law_1210 dL_law_1211 ?_
  refine lv_i2l hx hb dL_law_1212 rfl ?_
  refine lv_bipush (v := 32) hx hb dL_law_1213 rfl ?_
  refine lv_lshl hx hb dL_law_1215 rfl ?_
  refine law_arg K XX.2.2.2 (i := i) (j := 4) (a0 := 0) (a4 := 4) hl rfl rfl hL (by omega) (by decide) dL_law_1216 dL_law_1217 dL_law_1219 dL_law_1220 dL_law_1221 ?_
  refine lv_i2l hx hb dL_law_1222 rfl ?_
  refine lv_ldc2 hx hb hown (ht _ kcL_57) dL_law_1223 ?_
  refine lv_land hx hb dL_law_1226 ?_
  refine lv_lor hx hb dL_law_1227 ?_
  refine law_C K XX [.int (xs (i + 1)), .int (xs (i + 2)), .long _] [] dL_law_1228 zX9_put mlL_141 rfl rfl rfl (fun _ => rfl) rfl (Nat.le_of_ble_eq_true rfl) (Nat.le_of_ble_eq_true rfl) hl.1 ⟨by decide, by decide⟩ ⟨by omega, by omega⟩ (cl_put hX hC _ _ _ (fun MC2 hC H1 locs1 XX => ?_))
  refine lv_aload_n hx hb dL_law_1231 rfl (lv_at hl 2 rfl) ?_
  refine law_arg K XX.2.2.2 (i := i) (j := 1) (a0 := 0) (a4 := 4) hl rfl rfl hL (by omega) (by decide) dL_law_1232 dL_law_1233 dL_law_1235 dL_law_1236 dL_law_1237 ?_
  refine law_arg K XX.2.2.2 (i := i) (j := 2) (a0 := 0) (a4 := 4) hl rfl rfl hL (by omega) (by decide) dL_law_1238 dL_law_1239 dL_law_1241 dL_law_1242 dL_law_1243 ?_
  refine law_arg K XX.2.2.2 (i := i) (j := 3) (a0 := 0) (a4 := 4) hl rfl rfl hL (by omega) (by decide) dL_law_1244 dL_law_1245 dL_law_1247 dL_law_1248 dL_law_1249 ?_
  refine lv_i2l hx hb dL_law_1250 rfl ?_
  refine lv_bipush (v := 32) hx hb dL_law_1251 rfl ?_
  refine lv_lshl hx hb dL_law_1253 rfl ?_
  refine law_arg K XX.2.2.2 (i := i) (j := 4) (a0 := 0) (a4 := 4) hl rfl rfl hL (by omega) (by decide) dL_law_1254 dL_law_1255 dL_law_1257 dL_law_1258 dL_law_1259 ?_
  refine lv_i2l hx hb dL_law_1260 rfl ?_
  refine lv_ldc2 hx hb hown (ht _ kcL_57) dL_law_1261 ?_
  refine lv_land hx hb dL_law_1264 ?_
  refine lv_lor hx hb dL_law_1265 ?_
  refine law_M K XX [.int (xs (i + 1)), .int (xs (i + 2)), .long _] [.int _] dL_law_1266 zX10_put mlL_145 rfl rfl rfl (fun _ => rfl) rfl (Nat.le_of_ble_eq_true rfl) (Nat.le_of_ble_eq_true rfl) hl.1 ⟨by decide, by decide⟩ ⟨by omega, by omega⟩ (mo_put hX hM _ _ _ (fun MM2 hM H1 locs1 XX => ?_))
  refine lv_icmp_eq (tgt := 1562) hx hb dL_law_1269 (by decide) (fun _ => ?_) (fun z => absurd rfl z)
  refine W.widen (k := cells + 1) (n := slots + 6) (by omega) (by omega) ?_
  exact fin _ _ _ _ _ _ _ (wx_put hX _ _ _) hC hM XX hl
set_option maxHeartbeats 4000000 in
set_option maxRecDepth 100000 in
theorem lc_copy {p : Program} {l : Launch} {e : Env} {s : State} {m : MethodId} {below : List Frame} {meth : Method} {c : Code} {b L : Nat} {xs : Nat → Int32} {D : va_G} {cA : Nat → ClassId} {adC adM : Nat → Nat} {o : Nat} {MC MM : xM} {f : Nat → Int64} {H : Heap} {locs : List Loc} {Qf : State → Prop} {cells slots i : Nat} {ls : Array Slot} {X : xX} (K : LK p l s m meth c b L xs D cA adC adM o) (hX : wX X) (hC : RepC X MC) (hM : RepM X MM) (XX : LH D cA adC adM o s MC MM f H locs) (hL : L < 2 ^ 31) (hi : i + 6 ≤ L) (hcs : cells + 1 ≤ 601024 ∧ slots + 6 ≤ 7293034) (hl : lv_has ls 8 (lvL b adC adM o i)) (fin : LF p l e s m below meth c b D cA adC adM o Qf cells slots i) : W p l e room_1 s m #[.ref b] below meth c H locs cells slots Qf (F0 m 1341 ls []) := by
  obtain ⟨⟨hx, hb, hr, hml, hown, hts, hXx, hbl, hlocks, hgv⟩, hlt, hK, hZ0, hZx, hLD⟩ := id K
  have ht : ∀ w ∈ xtb, w.before #[Value.ref b] s = true := fun w h => hts w (List.mem_filter.mp h).1
  refine lv_aload_n hx hb dL_law_1341 rfl (lv_at hl 1 rfl) ?_
  refine law_arg K XX.2.2.2 (i := i) (j := 1) (a0 := 0) (a4 := 4) hl rfl rfl hL (by omega) (by decide) dL_law_1342 dL_law_1343 dL_law_1345 dL_law_1346 dL_law_1347 ?_
  refine law_arg K XX.2.2.2 (i := i) (j := 2) (a0 := 0) (a4 := 4) hl rfl rfl hL (by omega) (by decide) dL_law_1348 dL_law_1349 dL_law_1351 dL_law_1352 dL_law_1353 ?_
  refine law_arg K XX.2.2.2 (i := i) (j := 3) (a0 := 0) (a4 := 4) hl rfl rfl hL (by omega) (by decide) dL_law_1354 dL_law_1355 dL_law_1357 dL_law_1358 dL_law_1359 ?_
  refine law_arg K XX.2.2.2 (i := i) (j := 4) (a0 := 0) (a4 := 4) hl rfl rfl hL (by omega) (by decide) dL_law_1360 dL_law_1361 dL_law_1363 dL_law_1364 dL_law_1365 ?_
  refine law_arg K XX.2.2.2 (i := i) (j := 5) (a0 := 0) (a4 := 4) hl rfl rfl hL (by omega) (by decide) dL_law_1366 dL_law_1367 dL_law_1369 dL_law_1370 dL_law_1371 ?_
  refine law_C K XX [.int (xs (i + 1)), .int (xs (i + 2)), .int (xs (i + 3)), .int (xs (i + 4)), .int (xs (i + 5))] [] dL_law_1372 zX9_copy mlL_155 rfl rfl rfl (fun _ => rfl) rfl (Nat.le_of_ble_eq_true rfl) (Nat.le_of_ble_eq_true rfl) hl.1 ⟨by decide, by decide⟩ ⟨by omega, by omega⟩ (cl_copy hX hC _ _ _ _ _ (fun MC2 hC H1 locs1 XX => ?_))
  refine lv_aload_n hx hb dL_law_1375 rfl (lv_at hl 2 rfl) ?_
  refine law_arg K XX.2.2.2 (i := i) (j := 1) (a0 := 0) (a4 := 4) hl rfl rfl hL (by omega) (by decide) dL_law_1376 dL_law_1377 dL_law_1379 dL_law_1380 dL_law_1381 ?_
  refine law_arg K XX.2.2.2 (i := i) (j := 2) (a0 := 0) (a4 := 4) hl rfl rfl hL (by omega) (by decide) dL_law_1382 dL_law_1383 dL_law_1385 dL_law_1386 dL_law_1387 ?_
  refine law_arg K XX.2.2.2 (i := i) (j := 3) (a0 := 0) (a4 := 4) hl rfl rfl hL (by omega) (by decide) dL_law_1388 dL_law_1389 dL_law_1391 dL_law_1392 dL_law_1393 ?_
  refine law_arg K XX.2.2.2 (i := i) (j := 4) (a0 := 0) (a4 := 4) hl rfl rfl hL (by omega) (by decide) dL_law_1394 dL_law_1395 dL_law_1397 dL_law_1398 dL_law_1399 ?_
  refine law_arg K XX.2.2.2 (i := i) (j := 5) (a0 := 0) (a4 := 4) hl rfl rfl hL (by omega) (by decide) dL_law_1400 dL_law_1401 dL_law_1403 dL_law_1404 dL_law_1405 ?_
  refine law_M K XX [.int (xs (i + 1)), .int (xs (i + 2)), .int (xs (i + 3)), .int (xs (i + 4)), .int (xs (i + 5))] [.int _] dL_law_1406 zX10_copy mlL_159 rfl rfl rfl (fun _ => rfl) rfl (Nat.le_of_ble_eq_true rfl) (Nat.le_of_ble_eq_true rfl) hl.1 ⟨by decide, by decide⟩ ⟨by omega, by omega⟩ (mo_copy hX hM _ _ _ _ _ (fun MM2 hM H1 locs1 XX => ?_))
  refine lv_icmp_eq (tgt := 1562) hx hb dL_law_1409 (by decide) (fun _ => ?_) (fun z => absurd rfl z)
  refine W.widen (k := cells + 1) (n := slots + 6) (by omega) (by omega) ?_
  exact fin _ _ _ _ _ _ _ (wx_copy hX _ _ _ _ _) hC hM XX hl
set_option maxHeartbeats 4000000 in
set_option maxRecDepth 100000 in
theorem lc_play {p : Program} {l : Launch} {e : Env} {s : State} {m : MethodId} {below : List Frame} {meth : Method} {c : Code} {b L : Nat} {xs : Nat → Int32} {D : va_G} {cA : Nat → ClassId} {adC adM : Nat → Nat} {o : Nat} {MC MM : xM} {f : Nat → Int64} {H : Heap} {locs : List Loc} {Qf : State → Prop} {cells slots i : Nat} {ls : Array Slot} {X : xX} (K : LK p l s m meth c b L xs D cA adC adM o) (hX : wX X) (hC : RepC X MC) (hM : RepM X MM) (XX : LH D cA adC adM o s MC MM f H locs) (hL : L < 2 ^ 31) (hi : i + 6 ≤ L) (hcs : cells + 1 ≤ 601024 ∧ slots + 6 ≤ 7293034) (hl : lv_has ls 8 (lvL b adC adM o i)) (fin : LF p l e s m below meth c b D cA adC adM o Qf cells slots i) : W p l e room_1 s m #[.ref b] below meth c H locs cells slots Qf (F0 m 1414 ls []) := by
  obtain ⟨⟨hx, hb, hr, hml, hown, hts, hXx, hbl, hlocks, hgv⟩, hlt, hK, hZ0, hZx, hLD⟩ := id K
  have ht : ∀ w ∈ xtb, w.before #[Value.ref b] s = true := fun w h => hts w (List.mem_filter.mp h).1
  refine lv_aload_n hx hb dL_law_1414 rfl (lv_at hl 1 rfl) ?_
  refine law_arg K XX.2.2.2 (i := i) (j := 1) (a0 := 0) (a4 := 4) hl rfl rfl hL (by omega) (by decide) dL_law_1415 dL_law_1416 dL_law_1418 dL_law_1419 dL_law_1420 ?_
  refine law_arg K XX.2.2.2 (i := i) (j := 2) (a0 := 0) (a4 := 4) hl rfl rfl hL (by omega) (by decide) dL_law_1421 dL_law_1422 dL_law_1424 dL_law_1425 dL_law_1426 ?_
  refine law_arg K XX.2.2.2 (i := i) (j := 3) (a0 := 0) (a4 := 4) hl rfl rfl hL (by omega) (by decide) dL_law_1427 dL_law_1428 dL_law_1430 dL_law_1431 dL_law_1432 ?_
  refine law_arg K XX.2.2.2 (i := i) (j := 4) (a0 := 0) (a4 := 4) hl rfl rfl hL (by omega) (by decide) dL_law_1433 dL_law_1434 dL_law_1436 dL_law_1437 dL_law_1438 ?_
  refine law_C K XX [.int (xs (i + 1)), .int (xs (i + 2)), .int (xs (i + 3)), .int (xs (i + 4))] [] dL_law_1439 zX9_play mlL_160 rfl rfl rfl (fun _ => rfl) rfl (Nat.le_of_ble_eq_true rfl) (Nat.le_of_ble_eq_true rfl) hl.1 ⟨by decide, by decide⟩ ⟨by omega, by omega⟩ (cl_play hX hC _ _ _ _ (fun MC2 hC H1 locs1 XX => ?_))
  refine lv_aload_n hx hb dL_law_1442 rfl (lv_at hl 2 rfl) ?_
  refine law_arg K XX.2.2.2 (i := i) (j := 1) (a0 := 0) (a4 := 4) hl rfl rfl hL (by omega) (by decide) dL_law_1443 dL_law_1444 dL_law_1446 dL_law_1447 dL_law_1448 ?_
  refine law_arg K XX.2.2.2 (i := i) (j := 2) (a0 := 0) (a4 := 4) hl rfl rfl hL (by omega) (by decide) dL_law_1449 dL_law_1450 dL_law_1452 dL_law_1453 dL_law_1454 ?_
  refine law_arg K XX.2.2.2 (i := i) (j := 3) (a0 := 0) (a4 := 4) hl rfl rfl hL (by omega) (by decide) dL_law_1455 dL_law_1456 dL_law_1458 dL_law_1459 dL_law_1460 ?_
  refine law_arg K XX.2.2.2 (i := i) (j := 4) (a0 := 0) (a4 := 4) hl rfl rfl hL (by omega) (by decide) dL_law_1461 dL_law_1462 dL_law_1464 dL_law_1465 dL_law_1466 ?_
  refine law_M K XX [.int (xs (i + 1)), .int (xs (i + 2)), .int (xs (i + 3)), .int (xs (i + 4))] [.int _] dL_law_1467 zX10_play mlL_164 rfl rfl rfl (fun _ => rfl) rfl (Nat.le_of_ble_eq_true rfl) (Nat.le_of_ble_eq_true rfl) hl.1 ⟨by decide, by decide⟩ ⟨by omega, by omega⟩ (mo_play hX hM _ _ _ _ (fun MM2 hM H1 locs1 XX => ?_))
  refine lv_icmp_eq (tgt := 1562) hx hb dL_law_1470 (by decide) (fun _ => ?_) (fun z => absurd rfl z)
  refine W.widen (k := cells + 1) (n := slots + 6) (by omega) (by omega) ?_
  exact fin _ _ _ _ _ _ _ (wx_play hX _ _ _ _) hC hM XX hl
set_option maxHeartbeats 4000000 in
set_option maxRecDepth 100000 in
theorem lc_kept {p : Program} {l : Launch} {e : Env} {s : State} {m : MethodId} {below : List Frame} {meth : Method} {c : Code} {b L : Nat} {xs : Nat → Int32} {D : va_G} {cA : Nat → ClassId} {adC adM : Nat → Nat} {o : Nat} {MC MM : xM} {f : Nat → Int64} {H : Heap} {locs : List Loc} {Qf : State → Prop} {cells slots i : Nat} {ls : Array Slot} {X : xX} (K : LK p l s m meth c b L xs D cA adC adM o) (hX : wX X) (hC : RepC X MC) (hM : RepM X MM) (XX : LH D cA adC adM o s MC MM f H locs) (hL : L < 2 ^ 31) (hi : i + 6 ≤ L) (hcs : cells + 1 ≤ 601024 ∧ slots + 6 ≤ 7293034) (hl : lv_has ls 8 (lvL b adC adM o i)) (fin : LF p l e s m below meth c b D cA adC adM o Qf cells slots i) : W p l e room_1 s m #[.ref b] below meth c H locs cells slots Qf (F0 m 1475 ls []) := by
  obtain ⟨⟨hx, hb, hr, hml, hown, hts, hXx, hbl, hlocks, hgv⟩, hlt, hK, hZ0, hZx, hLD⟩ := id K
  have ht : ∀ w ∈ xtb, w.before #[Value.ref b] s = true := fun w h => hts w (List.mem_filter.mp h).1
  refine lv_aload_n hx hb dL_law_1475 rfl (lv_at hl 1 rfl) ?_
  refine law_arg K XX.2.2.2 (i := i) (j := 1) (a0 := 0) (a4 := 4) hl rfl rfl hL (by omega) (by decide) dL_law_1476 dL_law_1477 dL_law_1479 dL_law_1480 dL_law_1481 ?_
  refine law_arg K XX.2.2.2 (i := i) (j := 2) (a0 := 0) (a4 := 4) hl rfl rfl hL (by omega) (by decide) dL_law_1482 dL_law_1483 dL_law_1485 dL_law_1486 dL_law_1487 ?_
  refine law_C K XX [.int (xs (i + 1)), .int (xs (i + 2))] [] dL_law_1488 zX9_kept mlL_165 rfl rfl rfl (fun _ => rfl) rfl (Nat.le_of_ble_eq_true rfl) (Nat.le_of_ble_eq_true rfl) hl.1 ⟨by decide, by decide⟩ ⟨by omega, by omega⟩ (cl_kept hX hC _ _ (fun MC2 hC H1 locs1 XX => ?_))
  refine lv_aload_n hx hb dL_law_1491 rfl (lv_at hl 2 rfl) ?_
  refine law_arg K XX.2.2.2 (i := i) (j := 1) (a0 := 0) (a4 := 4) hl rfl rfl hL (by omega) (by decide) dL_law_1492 dL_law_1493 dL_law_1495 dL_law_1496 dL_law_1497 ?_
  refine law_arg K XX.2.2.2 (i := i) (j := 2) (a0 := 0) (a4 := 4) hl rfl rfl hL (by omega) (by decide) dL_law_1498 dL_law_1499 dL_law_1501 dL_law_1502 dL_law_1503 ?_
  refine law_M K XX [.int (xs (i + 1)), .int (xs (i + 2))] [.int _] dL_law_1504 zX10_kept mlL_168 rfl rfl rfl (fun _ => rfl) rfl (Nat.le_of_ble_eq_true rfl) (Nat.le_of_ble_eq_true rfl) hl.1 ⟨by decide, by decide⟩ ⟨by omega, by omega⟩ (mo_kept hX hM _ _ (fun MM2 hM H1 locs1 XX => ?_))
  refine lv_icmp_eq (tgt := 1562) hx hb dL_law_1507 (by decide) (fun _ => ?_) (fun z => absurd rfl z)
  refine W.widen (k := cells + 1) (n := slots + 6) (by omega) (by omega) ?_
  exact fin _ _ _ _ _ _ _ (wx_kept hX _ _) hC hM XX hl
set_option maxHeartbeats 4000000 in
set_option maxRecDepth 100000 in
theorem lc_count {p : Program} {l : Launch} {e : Env} {s : State} {m : MethodId} {below : List Frame} {meth : Method} {c : Code} {b L : Nat} {xs : Nat → Int32} {D : va_G} {cA : Nat → ClassId} {adC adM : Nat → Nat} {o : Nat} {MC MM : xM} {f : Nat → Int64} {H : Heap} {locs : List Loc} {Qf : State → Prop} {cells slots i : Nat} {ls : Array Slot} {X : xX} (K : LK p l s m meth c b L xs D cA adC adM o) (hX : wX X) (hC : RepC X MC) (hM : RepM X MM) (XX : LH D cA adC adM o s MC MM f H locs) (hL : L < 2 ^ 31) (hi : i + 6 ≤ L) (hcs : cells + 1 ≤ 601024 ∧ slots + 6 ≤ 7293034) (hl : lv_has ls 8 (lvL b adC adM o i)) (fin : LF p l e s m below meth c b D cA adC adM o Qf cells slots i) : W p l e room_1 s m #[.ref b] below meth c H locs cells slots Qf (F0 m 1537 ls []) := by
  obtain ⟨⟨hx, hb, hr, hml, hown, hts, hXx, hbl, hlocks, hgv⟩, hlt, hK, hZ0, hZx, hLD⟩ := id K
  have ht : ∀ w ∈ xtb, w.before #[Value.ref b] s = true := fun w h => hts w (List.mem_filter.mp h).1
  refine lv_aload_n hx hb dL_law_1537 rfl (lv_at hl 1 rfl) ?_
  refine law_arg K XX.2.2.2 (i := i) (j := 1) (a0 := 0) (a4 := 4) hl rfl rfl hL (by omega) (by decide) dL_law_1538 dL_law_1539 dL_law_1541 dL_law_1542 dL_law_1543 ?_
  refine law_C K XX [.int (xs (i + 1))] [] dL_law_1544 zX9_count mlL_173 rfl rfl rfl (fun _ => rfl) rfl (Nat.le_of_ble_eq_true rfl) (Nat.le_of_ble_eq_true rfl) hl.1 ⟨by decide, by decide⟩ ⟨by omega, by omega⟩ (cl_count hX hC _ (fun H1 locs1 XX => ?_))
  refine lv_aload_n hx hb dL_law_1547 rfl (lv_at hl 2 rfl) ?_
  refine law_arg K XX.2.2.2 (i := i) (j := 1) (a0 := 0) (a4 := 4) hl rfl rfl hL (by omega) (by decide) dL_law_1548 dL_law_1549 dL_law_1551 dL_law_1552 dL_law_1553 ?_
  refine law_M K XX [.int (xs (i + 1))] [.int _] dL_law_1554 zX10_count mlL_176 rfl rfl rfl (fun _ => rfl) rfl (Nat.le_of_ble_eq_true rfl) (Nat.le_of_ble_eq_true rfl) hl.1 ⟨by decide, by decide⟩ ⟨by omega, by omega⟩ (mo_count hX hM _ (fun H1 locs1 XX => ?_))
  refine lv_icmp_eq (tgt := 1562) hx hb dL_law_1557 (by decide) (fun _ => ?_) (fun z => absurd rfl z)
  refine W.widen (k := cells + 1) (n := slots + 6) (by omega) (by omega) ?_
  exact fin _ _ _ _ _ _ _ hX hC hM XX hl
