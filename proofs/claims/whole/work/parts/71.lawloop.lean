theorem law_gt {L i : Nat} (hL : L ≤ 3072) (hi : i ≤ 4000) : nI L - nI 6 < nI i ↔ L < i + 6 := by
  rw [Int32.lt_iff_toInt_lt, pk_sub_toInt (by omega) (by omega), nI_toInt (by omega)]
  omega
set_option maxHeartbeats 1000000 in
set_option maxRecDepth 20000 in
theorem law_loop {b L : Nat} {xs : Nat → Int32} (hL : L ≤ 3072) : ∀ (m i : Nat) (I : zI) (J : zJ) (S : zS), i ≤ 3078 → L + 6 ≤ i + m → vC I J S → vM I J S → GL b L xs 18 [.ref 97, .ref 0, .ref 79, .int (nI i)] [] I J := by
  intro m
  induction m with
  | zero =>
    intro i I J S hi hm hV hW
    refine g_iload_n (t := ML) (pc := 18) dL_law_18 rfl rfl ?_
    refine g_aload_n (t := ML) (pc := 19) dL_law_19 rfl rfl ?_
    refine gl_len (pc := 20) dL_law_20 ?_
    refine g_bipush (t := ML) (pc := 21) (v := nI 6) dL_law_21 (by decide) ?_
    refine g_isub (t := ML) (pc := 23) dL_law_23 ?_
    refine g_icmp_gt (t := ML) (pc := 24) (tgt := 1475) dL_law_24 (by decide) (fun _ => ?_) (fun h => absurd ((law_gt hL (by omega)).mpr (by omega)) h)
    refine g_iconst (t := ML) (pc := 1475) (v := 1) dL_law_1475 (by decide) ?_
    exact gl_ret (pc := 1476) dL_law_1476
  | succ m ih =>
    intro i I J S hi hm hV hW
    refine g_iload_n (t := ML) (pc := 18) dL_law_18 rfl rfl ?_
    refine g_aload_n (t := ML) (pc := 19) dL_law_19 rfl rfl ?_
    refine gl_len (pc := 20) dL_law_20 ?_
    refine g_bipush (t := ML) (pc := 21) (v := nI 6) dL_law_21 (by decide) ?_
    refine g_isub (t := ML) (pc := 23) dL_law_23 ?_
    refine g_icmp_gt (t := ML) (pc := 24) (tgt := 1475) dL_law_24 (by decide) (fun _ => ?_) (fun h => ?_)
    · refine g_iconst (t := ML) (pc := 1475) (v := 1) dL_law_1475 (by decide) ?_
      exact gl_ret (pc := 1476) dL_law_1476
    have hi6 : i + 6 ≤ L := by
      rcases Nat.lt_or_ge L (i + 6) with q | q
      · exact absurd ((law_gt hL (by omega)).mpr q) h
      · exact q
    have K : ∀ I' J' S', vC I' J' S' → vM I' J' S' → GL b L xs 1469 [.ref 97, .ref 0, .ref 79, .int (nI i)] [] I' J' := by
      intro I' J' S' hV' hW'
      refine g_iincN (t := ML) (pc := 1469) (c := 6) dL_law_1469 rfl (by with_reducible rfl) (by decide) (by decide) rfl ?_
      try dsimp only [zst1, zst2, zk]
      refine g_goto (t := ML) (pc := 1472) (tgt := 18) dL_law_1472 (by decide) ?_
      exact ih (i + 6) I' J' S' (by omega) (by omega) hV' hW'
    refine g_aload_n (t := ML) (pc := 27) dL_law_27 rfl rfl ?_
    refine g_iload_n (t := ML) (pc := 28) dL_law_28 rfl rfl ?_
    refine gl_ld (pc := 29) dL_law_29 hL (by omega) rfl ?_
    refine g_bipush (t := ML) (pc := 30) (v := nI 63) dL_law_30 (by decide) ?_
    refine g_iand (t := ML) (pc := 32) dL_law_32 ?_
    generalize xs i &&& nI 63 = v
    rcases law_sw v with ⟨k, hk, rfl⟩ | hv
    · rcases (show k = 0 ∨ k = 1 ∨ k = 2 ∨ k = 3 ∨ k = 4 ∨ k = 5 ∨ k = 6 ∨ k = 7 ∨ k = 8 ∨ k = 9 ∨ k = 10 ∨ k = 11 ∨ k = 12 ∨ k = 13 ∨ k = 14 ∨ k = 15 ∨ k = 16 ∨ k = 17 ∨ k = 18 ∨ k = 19 ∨ k = 20 ∨ k = 21 ∨ k = 22 ∨ k = 23 ∨ k = 24 ∨ k = 25 ∨ k = 26 ∨ k = 27 ∨ k = 28 ∨ k = 29 ∨ k = 30 ∨ k = 31 ∨ k = 32 ∨ k = 33 ∨ k = 34 ∨ k = 35 ∨ k = 36 ∨ k = 37 by omega) with rfl | rfl | rfl | rfl | rfl | rfl | rfl | rfl | rfl | rfl | rfl | rfl | rfl | rfl | rfl | rfl | rfl | rfl | rfl | rfl | rfl | rfl | rfl | rfl | rfl | rfl | rfl | rfl | rfl | rfl | rfl | rfl | rfl | rfl | rfl | rfl | rfl | rfl
      · exact g_tableIn (t := ML) (pc := 33) (off := 167) (tgt := 200) dL_law_33 (by decide) (by decide) (by decide) (by decide) (law_c0 hL hi6 hV hW K)
      · exact g_tableIn (t := ML) (pc := 33) (off := 200) (tgt := 233) dL_law_33 (by decide) (by decide) (by decide) (by decide) (law_c1 hL hi6 hV hW K)
      · exact g_tableIn (t := ML) (pc := 33) (off := 243) (tgt := 276) dL_law_33 (by decide) (by decide) (by decide) (by decide) (law_c2 hL hi6 hV hW K)
      · exact g_tableIn (t := ML) (pc := 33) (off := 286) (tgt := 319) dL_law_33 (by decide) (by decide) (by decide) (by decide) (law_c3 hL hi6 hV hW K)
      · exact g_tableIn (t := ML) (pc := 33) (off := 329) (tgt := 362) dL_law_33 (by decide) (by decide) (by decide) (by decide) (law_c4 hL hi6 hV hW K)
      · exact g_tableIn (t := ML) (pc := 33) (off := 368) (tgt := 401) dL_law_33 (by decide) (by decide) (by decide) (by decide) (law_c5 hL hi6 hV hW K)
      · exact g_tableIn (t := ML) (pc := 33) (off := 411) (tgt := 444) dL_law_33 (by decide) (by decide) (by decide) (by decide) (law_c6 hL hi6 hV hW K)
      · exact g_tableIn (t := ML) (pc := 33) (off := 444) (tgt := 477) dL_law_33 (by decide) (by decide) (by decide) (by decide) (law_c7 hL hi6 hV hW K)
      · exact g_tableIn (t := ML) (pc := 33) (off := 467) (tgt := 500) dL_law_33 (by decide) (by decide) (by decide) (by decide) (law_c8 hL hi6 hV hW K)
      · exact g_tableIn (t := ML) (pc := 33) (off := 480) (tgt := 513) dL_law_33 (by decide) (by decide) (by decide) (by decide) (law_c9 hL hi6 hV hW K)
      · exact g_tableIn (t := ML) (pc := 33) (off := 493) (tgt := 526) dL_law_33 (by decide) (by decide) (by decide) (by decide) (law_c10 hL hi6 hV hW K)
      · exact g_tableIn (t := ML) (pc := 33) (off := 516) (tgt := 549) dL_law_33 (by decide) (by decide) (by decide) (by decide) (law_c11 hL hi6 hV hW K)
      · exact g_tableIn (t := ML) (pc := 33) (off := 539) (tgt := 572) dL_law_33 (by decide) (by decide) (by decide) (by decide) (law_c12 hL hi6 hV hW K)
      · exact g_tableIn (t := ML) (pc := 33) (off := 583) (tgt := 616) dL_law_33 (by decide) (by decide) (by decide) (by decide) (law_c13 hL hi6 hV hW K)
      · exact g_tableIn (t := ML) (pc := 33) (off := 627) (tgt := 660) dL_law_33 (by decide) (by decide) (by decide) (by decide) (law_c14 hL hi6 hV hW K)
      · exact g_tableIn (t := ML) (pc := 33) (off := 671) (tgt := 704) dL_law_33 (by decide) (by decide) (by decide) (by decide) (law_c15 hL hi6 hV hW K)
      · exact g_tableIn (t := ML) (pc := 33) (off := 684) (tgt := 717) dL_law_33 (by decide) (by decide) (by decide) (by decide) (law_c16 hL hi6 hV hW K)
      · exact g_tableIn (t := ML) (pc := 33) (off := 707) (tgt := 740) dL_law_33 (by decide) (by decide) (by decide) (by decide) (law_c17 hL hi6 hV hW K)
      · exact g_tableIn (t := ML) (pc := 33) (off := 740) (tgt := 773) dL_law_33 (by decide) (by decide) (by decide) (by decide) (law_c18 hL hi6 hV hW K)
      · exact g_tableIn (t := ML) (pc := 33) (off := 773) (tgt := 806) dL_law_33 (by decide) (by decide) (by decide) (by decide) (law_c19 hL hi6 hV hW K)
      · exact g_tableIn (t := ML) (pc := 33) (off := 837) (tgt := 870) dL_law_33 (by decide) (by decide) (by decide) (by decide) (law_c20 hL hi6 hV hW K)
      · exact g_tableIn (t := ML) (pc := 33) (off := 851) (tgt := 884) dL_law_33 (by decide) (by decide) (by decide) (by decide) (law_c21 hL hi6 hV hW K)
      · exact g_tableIn (t := ML) (pc := 33) (off := 874) (tgt := 907) dL_law_33 (by decide) (by decide) (by decide) (by decide) (law_c22 hL hi6 hV hW K)
      · exact g_tableIn (t := ML) (pc := 33) (off := 917) (tgt := 950) dL_law_33 (by decide) (by decide) (by decide) (by decide) (law_c23 hL hi6 hV hW K)
      · exact g_tableIn (t := ML) (pc := 33) (off := 960) (tgt := 993) dL_law_33 (by decide) (by decide) (by decide) (by decide) (law_c24 hL hi6 hV hW K)
      · exact g_tableIn (t := ML) (pc := 33) (off := 1004) (tgt := 1037) dL_law_33 (by decide) (by decide) (by decide) (by decide) (law_c25 hL hi6 hV hW K)
      · exact g_tableIn (t := ML) (pc := 33) (off := 1028) (tgt := 1061) dL_law_33 (by decide) (by decide) (by decide) (by decide) (law_c26 hL hi6 hV hW K)
      · exact g_tableIn (t := ML) (pc := 33) (off := 1061) (tgt := 1094) dL_law_33 (by decide) (by decide) (by decide) (by decide) (law_c27 hL hi6 hV hW K)
      · exact g_tableIn (t := ML) (pc := 33) (off := 1085) (tgt := 1118) dL_law_33 (by decide) (by decide) (by decide) (by decide) (law_c28 hL hi6 hV hW K)
      · exact g_tableIn (t := ML) (pc := 33) (off := 1128) (tgt := 1161) dL_law_33 (by decide) (by decide) (by decide) (by decide) (law_c29 hL hi6 hV hW K)
      · exact g_tableIn (t := ML) (pc := 33) (off := 1141) (tgt := 1174) dL_law_33 (by decide) (by decide) (by decide) (by decide) (law_c30 hL hi6 hV hW K)
      · exact g_tableIn (t := ML) (pc := 33) (off := 1174) (tgt := 1207) dL_law_33 (by decide) (by decide) (by decide) (by decide) (law_c31 hL hi6 hV hW K)
      · exact g_tableIn (t := ML) (pc := 33) (off := 1187) (tgt := 1220) dL_law_33 (by decide) (by decide) (by decide) (by decide) (law_c32 hL hi6 hV hW K)
      · exact g_tableIn (t := ML) (pc := 33) (off := 1200) (tgt := 1233) dL_law_33 (by decide) (by decide) (by decide) (by decide) (law_c33 hL hi6 hV hW K)
      · exact g_tableIn (t := ML) (pc := 33) (off := 1223) (tgt := 1256) dL_law_33 (by decide) (by decide) (by decide) (by decide) (law_c34 hL hi6 hV hW K)
      · exact g_tableIn (t := ML) (pc := 33) (off := 1266) (tgt := 1299) dL_law_33 (by decide) (by decide) (by decide) (by decide) (law_c35 hL hi6 hV hW K)
      · exact g_tableIn (t := ML) (pc := 33) (off := 1339) (tgt := 1372) dL_law_33 (by decide) (by decide) (by decide) (by decide) (law_c36 hL hi6 hV hW K)
      · exact g_tableIn (t := ML) (pc := 33) (off := 1373) (tgt := 1406) dL_law_33 (by decide) (by decide) (by decide) (by decide) (law_c37 hL hi6 hV hW K)
    · exact g_tableOut (t := ML) (pc := 33) (tgt := 1469) dL_law_33 hv (by decide) (K I J S hV hW)
