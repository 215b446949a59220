set_option maxHeartbeats 4000000 in
set_option maxRecDepth 100000 in
theorem u_count {M : xM} {r : Nat} {b : Bool} {Q : Option Value → xM → Prop} (hr : isSu r) (ha : b = true → Q none (xf M r 3 (M.1 r 3 + 1))) (hb : b = false → Q none (xf M r 2 (M.1 r 2 + 1))) : WP shC mX7_countHit 0 [some (.ref r), some (.int (xb b))] [] M Q := by
  refine xi_iload_n dX7_countHit_0 rfl ?_
  refine xb_if_eq b 17 dX7_countHit_1 (by decide) rfl (fun h1 => ?_) (fun h1 => ?_)
  · skip
    refine xi_aload_n dX7_countHit_17 rfl ?_
    refine xi_dup dX7_countHit_18 rfl ?_
    refine xi_getI dX7_countHit_19 fgX7_24 (suo hr) rfl ?_
    refine xi_iconst (v := 1) dX7_countHit_22 rfl ?_
    refine xi_iadd dX7_countHit_23 ?_
    refine xi_put dX7_countHit_24 fpX7_24 (suo hr) rfl ?_
    refine xi_vret dX7_countHit_27 rfl ?_
    exact hb h1
  · skip
    refine xi_aload_n dX7_countHit_4 rfl ?_
    refine xi_dup dX7_countHit_5 rfl ?_
    refine xi_getI dX7_countHit_6 fgX7_28 (suo hr) rfl ?_
    refine xi_iconst (v := 1) dX7_countHit_9 rfl ?_
    refine xi_iadd dX7_countHit_10 ?_
    refine xi_put dX7_countHit_11 fpX7_28 (suo hr) rfl ?_
    refine xi_goto 27 dX7_countHit_14 (by decide) ?_
    refine xi_vret dX7_countHit_27 rfl ?_
    exact ha h1

