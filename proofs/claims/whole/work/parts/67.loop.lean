/-! the law: turn after turn -/
set_option maxHeartbeats 4000000 in
set_option maxRecDepth 100000 in
theorem law_32 {h0 : am_H} {N : Nat} {f : Nat → Int32} {ff gg : Nat → Int32} (G : g0_D gg) {i : Nat} (hN : 4 * i + 4 ≤ N) (hi : i ≤ 520) (K : lwK h0 N f ff gg 792 i (i + 1)) (z : PV) (q : RV) (kc ks : Nat) (M : mr_R z q) (hc : kc ≤ 39 + 8 * i) (hk : ks ≤ 991 + 67 * i) (x : Int32) : am_RW mL_law h0 lwP kc ks 32 (lwL i) [.int (x &&& 31)] (ppH false ff false gg z ++ lwR N f q) := by
  obtain ⟨j, hj, e⟩ := pk_andE x (m := 31) 5 (by decide +kernel)
  rw [e]
  rcases (show j = 0 ∨ j = 1 ∨ j = 2 ∨ j = 3 ∨ j = 4 ∨ j = 5 ∨ j = 6 ∨ j = 7 ∨ j = 8 ∨ j = 9 ∨ j = 10 ∨ j = 11 ∨ j = 12 ∨ j = 13 ∨ j = 14 ∨ j = 15 ∨ j = 16 ∨ j = 17 ∨ j = 18 ∨ j = 19 ∨ j = 20 ∨ j = 21 ∨ j = 22 ∨ j = 23 ∨ j = 24 ∨ j = 25 ∨ j = 26 ∨ j = 27 ∨ j = 28 ∨ j = 29 ∨ j = 30 ∨ j = 31 by omega) with rfl | rfl | rfl | rfl | rfl | rfl | rfl | rfl | rfl | rfl | rfl | rfl | rfl | rfl | rfl | rfl | rfl | rfl | rfl | rfl | rfl | rfl | rfl | rfl | rfl | rfl | rfl | rfl | rfl | rfl | rfl | rfl
  · refine ar_tsIn (pc := 32) (tgt := 144) dL_law_32 (by decide +kernel) (by decide +kernel) (show _ = some 112 from by decide +kernel) (by decide) ?_
    exact law_144 G hN hi K z q kc ks M hc hk
  · refine ar_tsIn (pc := 32) (tgt := 177) dL_law_32 (by decide +kernel) (by decide +kernel) (show _ = some 145 from by decide +kernel) (by decide) ?_
    by_cases hr : f (4 * i + 2) = 0
    · exact law_177z G hN hi K hr z q kc ks M hc hk
    · exact law_177o G hN hi K hr z q kc ks M hc hk
  · refine ar_tsIn (pc := 32) (tgt := 226) dL_law_32 (by decide +kernel) (by decide +kernel) (show _ = some 194 from by decide +kernel) (by decide) ?_
    exact law_226 G hN hi K z q kc ks M hc hk
  · refine ar_tsIn (pc := 32) (tgt := 249) dL_law_32 (by decide +kernel) (by decide +kernel) (show _ = some 217 from by decide +kernel) (by decide) ?_
    exact law_249 G hN hi K z q kc ks M hc hk
  · refine ar_tsIn (pc := 32) (tgt := 272) dL_law_32 (by decide +kernel) (by decide +kernel) (show _ = some 240 from by decide +kernel) (by decide) ?_
    exact law_272 G hN hi K z q kc ks M hc hk
  · refine ar_tsIn (pc := 32) (tgt := 305) dL_law_32 (by decide +kernel) (by decide +kernel) (show _ = some 273 from by decide +kernel) (by decide) ?_
    exact law_305 G hN hi K z q kc ks M hc hk
  · refine ar_tsIn (pc := 32) (tgt := 338) dL_law_32 (by decide +kernel) (by decide +kernel) (show _ = some 306 from by decide +kernel) (by decide) ?_
    exact law_338 G hN hi K z q kc ks M hc hk
  · refine ar_tsIn (pc := 32) (tgt := 361) dL_law_32 (by decide +kernel) (by decide +kernel) (show _ = some 329 from by decide +kernel) (by decide) ?_
    exact law_361 G hN hi K z q kc ks M hc hk
  · refine ar_tsIn (pc := 32) (tgt := 374) dL_law_32 (by decide +kernel) (by decide +kernel) (show _ = some 342 from by decide +kernel) (by decide) ?_
    exact law_374 G hN hi K z q kc ks M hc hk
  · refine ar_tsIn (pc := 32) (tgt := 387) dL_law_32 (by decide +kernel) (by decide +kernel) (show _ = some 355 from by decide +kernel) (by decide) ?_
    exact law_387 G hN hi K z q kc ks M hc hk
  · refine ar_tsIn (pc := 32) (tgt := 420) dL_law_32 (by decide +kernel) (by decide +kernel) (show _ = some 388 from by decide +kernel) (by decide) ?_
    exact law_420 G hN hi K z q kc ks M hc hk
  · refine ar_tsIn (pc := 32) (tgt := 453) dL_law_32 (by decide +kernel) (by decide +kernel) (show _ = some 421 from by decide +kernel) (by decide) ?_
    exact law_453 G hN hi K z q kc ks M hc hk
  · refine ar_tsIn (pc := 32) (tgt := 496) dL_law_32 (by decide +kernel) (by decide +kernel) (show _ = some 464 from by decide +kernel) (by decide) ?_
    exact law_496 G hN hi K z q kc ks M hc hk
  · refine ar_tsIn (pc := 32) (tgt := 519) dL_law_32 (by decide +kernel) (by decide +kernel) (show _ = some 487 from by decide +kernel) (by decide) ?_
    exact law_519 G hN hi K z q kc ks M hc hk
  · refine ar_tsIn (pc := 32) (tgt := 542) dL_law_32 (by decide +kernel) (by decide +kernel) (show _ = some 510 from by decide +kernel) (by decide) ?_
    exact law_542 G hN hi K z q kc ks M hc hk
  · refine ar_tsIn (pc := 32) (tgt := 575) dL_law_32 (by decide +kernel) (by decide +kernel) (show _ = some 543 from by decide +kernel) (by decide) ?_
    exact law_575 G hN hi K z q kc ks M hc hk
  · refine ar_tsIn (pc := 32) (tgt := 598) dL_law_32 (by decide +kernel) (by decide +kernel) (show _ = some 566 from by decide +kernel) (by decide) ?_
    exact law_598 G hN hi K z q kc ks M hc hk
  · refine ar_tsIn (pc := 32) (tgt := 631) dL_law_32 (by decide +kernel) (by decide +kernel) (show _ = some 599 from by decide +kernel) (by decide) ?_
    exact law_631 G hN hi K z q kc ks M hc hk
  · refine ar_tsIn (pc := 32) (tgt := 654) dL_law_32 (by decide +kernel) (by decide +kernel) (show _ = some 622 from by decide +kernel) (by decide) ?_
    exact law_654 G hN hi K z q kc ks M hc hk
  · refine ar_tsIn (pc := 32) (tgt := 707) dL_law_32 (by decide +kernel) (by decide +kernel) (show _ = some 675 from by decide +kernel) (by decide) ?_
    exact law_707 G hN hi K z q kc ks M hc hk
  · refine ar_tsIn (pc := 32) (tgt := 720) dL_law_32 (by decide +kernel) (by decide +kernel) (show _ = some 688 from by decide +kernel) (by decide) ?_
    exact law_720 G hN hi K z q kc ks M hc hk
  · refine ar_tsIn (pc := 32) (tgt := 733) dL_law_32 (by decide +kernel) (by decide +kernel) (show _ = some 701 from by decide +kernel) (by decide) ?_
    exact law_733 G hN hi K z q kc ks M hc hk
  · refine ar_tsIn (pc := 32) (tgt := 746) dL_law_32 (by decide +kernel) (by decide +kernel) (show _ = some 714 from by decide +kernel) (by decide) ?_
    exact law_746 G hN hi K z q kc ks M hc hk
  · refine ar_tsIn (pc := 32) (tgt := 769) dL_law_32 (by decide +kernel) (by decide +kernel) (show _ = some 737 from by decide +kernel) (by decide) ?_
    exact law_769 G hN hi K z q kc ks M hc hk
  · refine ar_tsOut (pc := 32) (tgt := 792) dL_law_32 (by decide +kernel) (by decide) ?_
    exact K z q kc ks M (by omega) (by omega)
  · refine ar_tsOut (pc := 32) (tgt := 792) dL_law_32 (by decide +kernel) (by decide) ?_
    exact K z q kc ks M (by omega) (by omega)
  · refine ar_tsOut (pc := 32) (tgt := 792) dL_law_32 (by decide +kernel) (by decide) ?_
    exact K z q kc ks M (by omega) (by omega)
  · refine ar_tsOut (pc := 32) (tgt := 792) dL_law_32 (by decide +kernel) (by decide) ?_
    exact K z q kc ks M (by omega) (by omega)
  · refine ar_tsOut (pc := 32) (tgt := 792) dL_law_32 (by decide +kernel) (by decide) ?_
    exact K z q kc ks M (by omega) (by omega)
  · refine ar_tsOut (pc := 32) (tgt := 792) dL_law_32 (by decide +kernel) (by decide) ?_
    exact K z q kc ks M (by omega) (by omega)
  · refine ar_tsOut (pc := 32) (tgt := 792) dL_law_32 (by decide +kernel) (by decide) ?_
    exact K z q kc ks M (by omega) (by omega)
  · refine ar_tsOut (pc := 32) (tgt := 792) dL_law_32 (by decide +kernel) (by decide) ?_
    exact K z q kc ks M (by omega) (by omega)
set_option maxHeartbeats 4000000 in
set_option maxRecDepth 100000 in
theorem law_792 {h0 : am_H} {N : Nat} {f : Nat → Int32} {ff gg : Nat → Int32} {i : Nat} (K : lwK h0 N f ff gg 18 (i + 1) (i + 1)) : lwK h0 N f ff gg 792 i (i + 1) := by
  intro z q kc ks M hc hk
  refine ar_iinc (pc := 792) dL_law_792 rfl (v := nI (4 * (i + 1))) (by rw [show Int32.ofInt 4 = nI 4 from rfl, nI_add]; rfl) (Nat.le_of_ble_eq_true rfl) rfl ?_
  refine ar_goto (pc := 795) (tgt := 18) dL_law_795 (by decide) ?_
  exact K z q kc ks M hc hk
theorem n4_lt {N : Nat} (h : N < 4) : nI N - 4 < 0 := by
  rcases (show N = 0 ∨ N = 1 ∨ N = 2 ∨ N = 3 by omega) with rfl | rfl | rfl | rfl <;> decide +kernel
theorem n4_sub {N : Nat} (h : 4 ≤ N) : nI N - 4 = nI (N - 4) := by
  rw [show (4 : Int32) = nI 4 from rfl]
  have e : nI N = nI (N - 4) + nI 4 := by rw [nI_add]; congr 1; omega
  rw [e, Int32.add_sub_cancel]
set_option maxHeartbeats 4000000 in
set_option maxRecDepth 100000 in
theorem law_turn {h0 : am_H} {N : Nat} (hN : N ≤ 2048) {f : Nat → Int32} {ff gg : Nat → Int32} (G : g0_D gg) (i : Nat) (hi : i ≤ 520) (K : 4 * i + 4 ≤ N → lwK h0 N f ff gg 18 (i + 1) (i + 1)) : lwK h0 N f ff gg 18 i i := by
  intro z q kc ks M hc hk
  refine ar_iload_n (i := 3) (pc := 18) dL_law_18 rfl rfl ?_
  refine ar_aload_n (i := 0) (pc := 19) dL_law_19 rfl rfl ?_
  refine ar_alen (pc := 20) dL_law_20 (lw_scr N f ff gg z q) ?_
  refine ar_iconst (pc := 21) dL_law_21 q_iconst_4 ?_
  refine ar_isub (pc := 22) dL_law_22 ?_
  refine ar_icmp_gt (pc := 23) (tgt := 798) dL_law_23 (by decide) (fun _ => ?_) (fun c => ?_)
  · refine ar_iconst (pc := 798) dL_law_798 q_iconst_1 ?_
    exact ar_zret (pc := 799) dL_law_799 rfl (Or.inr rfl) (Nat.ble_eq_true_of_le (show kc ≤ 600000 by omega)) (Nat.ble_eq_true_of_le (show ks ≤ 7302250 by omega)) rfl
  · have h4 : 4 * i + 4 ≤ N := by
      rcases Nat.lt_or_ge N 4 with q4 | q4
      · refine absurd ?_ c
        have a := n4_lt q4
        rw [Int32.lt_iff_toInt_lt] at a ⊢
        rw [ti_0] at a
        rw [nI_toInt (by omega)]
        omega
      · rw [n4_sub q4] at c
        rcases Nat.lt_or_ge (N - 4) (4 * i) with q5 | q5
        · exact absurd (nI_lt q5 (by omega)) c
        · omega
    refine ar_aload_n (i := 0) (pc := 26) dL_law_26 rfl rfl ?_
    refine ar_iload_n (i := 3) (pc := 27) dL_law_27 rfl rfl ?_
    refine ar_iald (pc := 28) dL_law_28 (lw_scr N f ff gg z q) (show 4 * i < N by omega) rfl ?_
    refine ar_bipush (pc := 29) dL_law_29 q_bipush_31 ?_
    refine ar_iand (pc := 31) dL_law_31 ?_
    exact law_32 G h4 hi (law_792 (K h4)) z q kc ks M hc hk _
theorem law_loop {h0 : am_H} {N : Nat} (hN : N ≤ 2048) {f : Nat → Int32} {ff gg : Nat → Int32} (G : g0_D gg) : ∀ (n i : Nat), i + n = 520 → lwK h0 N f ff gg 18 i i
  | 0, i, h => law_turn hN G i (by omega) (fun h4 => by omega)
  | n + 1, i, h => law_turn hN G i (by omega) (fun _ => law_loop hN G n (i + 1) (by omega))
