set_option maxHeartbeats 2000000 in
set_option maxRecDepth 20000 in
theorem c_bitCount {lay : List zL} {I : zI} {J : zJ} {k : Nat} (hk : k < 8) : zMet lay MJ6_bitCount_0f7a4 0 [.int (nI k)] I J (fun r I' J' => r = .int (nI (zpop k)) ∧ I = I' ∧ J = J') := by
  refine zMet_of (t := MJ6_bitCount_0f7a4) (ls := [.int (nI k)]) (by decide +kernel) (Nat.le_of_ble_eq_true rfl) rfl ?_
  refine z_iload_n (pc := 0) dJ6_bitCount_0f7a4_0 rfl rfl ?_
  refine z_iload_n (pc := 1) dJ6_bitCount_0f7a4_1 rfl rfl ?_
  refine z_iconst (pc := 2) (v := nI 1) dJ6_bitCount_0f7a4_2 (by decide) ?_
  refine z_iushr (pc := 3) dJ6_bitCount_0f7a4_3 rfl ?_
  refine z_ldcw (pc := 4) (v := 1431655765) dJ6_bitCount_0f7a4_4 q_RJ6_265 ?_
  refine z_iand (pc := 7) dJ6_bitCount_0f7a4_7 ?_
  first | refine z_isubN (pc := 8) (by with_reducible rfl) (by with_reducible rfl) dJ6_bitCount_0f7a4_8 (by omega) ?_ | refine z_isub (pc := 8) dJ6_bitCount_0f7a4_8 ?_
  refine z_istore_n (pc := 9) dJ6_bitCount_0f7a4_9 rfl (by decide) rfl ?_
  try dsimp only [zst1, zst2, zk]
  refine z_iload_n (pc := 10) dJ6_bitCount_0f7a4_10 rfl rfl ?_
  refine z_ldcw (pc := 11) (v := 858993459) dJ6_bitCount_0f7a4_11 q_RJ6_266 ?_
  refine z_iand (pc := 14) dJ6_bitCount_0f7a4_14 ?_
  refine z_iload_n (pc := 15) dJ6_bitCount_0f7a4_15 rfl rfl ?_
  refine z_iconst (pc := 16) (v := nI 2) dJ6_bitCount_0f7a4_16 (by decide) ?_
  refine z_iushr (pc := 17) dJ6_bitCount_0f7a4_17 rfl ?_
  refine z_ldcw (pc := 18) (v := 858993459) dJ6_bitCount_0f7a4_18 q_RJ6_266 ?_
  refine z_iand (pc := 21) dJ6_bitCount_0f7a4_21 ?_
  first | refine z_iaddN (pc := 22) (by with_reducible rfl) (by with_reducible rfl) dJ6_bitCount_0f7a4_22 ?_ | refine z_iadd (pc := 22) dJ6_bitCount_0f7a4_22 ?_
  refine z_istore_n (pc := 23) dJ6_bitCount_0f7a4_23 rfl (by decide) rfl ?_
  try dsimp only [zst1, zst2, zk]
  refine z_iload_n (pc := 24) dJ6_bitCount_0f7a4_24 rfl rfl ?_
  refine z_iload_n (pc := 25) dJ6_bitCount_0f7a4_25 rfl rfl ?_
  refine z_iconst (pc := 26) (v := nI 4) dJ6_bitCount_0f7a4_26 (by decide) ?_
  refine z_iushr (pc := 27) dJ6_bitCount_0f7a4_27 rfl ?_
  first | refine z_iaddN (pc := 28) (by with_reducible rfl) (by with_reducible rfl) dJ6_bitCount_0f7a4_28 ?_ | refine z_iadd (pc := 28) dJ6_bitCount_0f7a4_28 ?_
  refine z_ldcw (pc := 29) (v := 252645135) dJ6_bitCount_0f7a4_29 q_RJ6_267 ?_
  refine z_iand (pc := 32) dJ6_bitCount_0f7a4_32 ?_
  refine z_istore_n (pc := 33) dJ6_bitCount_0f7a4_33 rfl (by decide) rfl ?_
  try dsimp only [zst1, zst2, zk]
  refine z_iload_n (pc := 34) dJ6_bitCount_0f7a4_34 rfl rfl ?_
  refine z_iload_n (pc := 35) dJ6_bitCount_0f7a4_35 rfl rfl ?_
  refine z_bipush (pc := 36) (v := nI 8) dJ6_bitCount_0f7a4_36 (by decide) ?_
  refine z_iushr (pc := 38) dJ6_bitCount_0f7a4_38 rfl ?_
  first | refine z_iaddN (pc := 39) (by with_reducible rfl) (by with_reducible rfl) dJ6_bitCount_0f7a4_39 ?_ | refine z_iadd (pc := 39) dJ6_bitCount_0f7a4_39 ?_
  refine z_istore_n (pc := 40) dJ6_bitCount_0f7a4_40 rfl (by decide) rfl ?_
  try dsimp only [zst1, zst2, zk]
  refine z_iload_n (pc := 41) dJ6_bitCount_0f7a4_41 rfl rfl ?_
  refine z_iload_n (pc := 42) dJ6_bitCount_0f7a4_42 rfl rfl ?_
  refine z_bipush (pc := 43) (v := nI 16) dJ6_bitCount_0f7a4_43 (by decide) ?_
  refine z_iushr (pc := 45) dJ6_bitCount_0f7a4_45 rfl ?_
  first | refine z_iaddN (pc := 46) (by with_reducible rfl) (by with_reducible rfl) dJ6_bitCount_0f7a4_46 ?_ | refine z_iadd (pc := 46) dJ6_bitCount_0f7a4_46 ?_
  refine z_istore_n (pc := 47) dJ6_bitCount_0f7a4_47 rfl (by decide) rfl ?_
  try dsimp only [zst1, zst2, zk]
  refine z_iload_n (pc := 48) dJ6_bitCount_0f7a4_48 rfl rfl ?_
  refine z_bipush (pc := 49) (v := nI 63) dJ6_bitCount_0f7a4_49 (by decide) ?_
  refine z_iand (pc := 51) dJ6_bitCount_0f7a4_51 ?_
  refine z_iret (pc := 52) dJ6_bitCount_0f7a4_52 rfl ?_
  refine ⟨?_, rfl, rfl⟩
  rcases (show k = 0 ∨ k = 1 ∨ k = 2 ∨ k = 3 ∨ k = 4 ∨ k = 5 ∨ k = 6 ∨ k = 7 by omega) with rfl | rfl | rfl | rfl | rfl | rfl | rfl | rfl <;> decide +kernel
set_option maxHeartbeats 2000000 in
set_option maxRecDepth 20000 in
theorem c_compare {lay : List zL} {I : zI} {J : zJ} {a b : Nat} (ha : a < 9223372036854775808) (hb : b < 9223372036854775808) : zMet lay MJ13_compare_74951 0 [.long (lN a), .long (lN b)] I J (fun r I' J' => ((r = .int (-1) ∧ a < b) ∨ (r = .int (nI 0) ∧ a = b) ∨ (r = .int (nI 1) ∧ b < a)) ∧ I = I' ∧ J = J') := by
  refine zMet_of (t := MJ13_compare_74951) (ls := [.long (lN a), .null, .long (lN b), .null]) (by decide +kernel) (Nat.le_of_ble_eq_true rfl) rfl ?_
  refine z_lload_n (pc := 0) dJ13_compare_74951_0 rfl rfl ?_
  refine z_lload_n (pc := 1) dJ13_compare_74951_1 rfl rfl ?_
  first | refine z_lc_geN (pc := 2) (tgt := 10) (by with_reducible rfl) (by with_reducible rfl) dJ13_compare_74951_2 rfl dJ13_compare_74951_3 (by decide) (by omega) (by omega) (fun hb2 => ?_) (fun hb2 => ?_) | refine z_lc_ge (pc := 2) (tgt := 10) dJ13_compare_74951_2 rfl dJ13_compare_74951_3 (by decide) (fun hb2 => ?_) (fun hb2 => ?_)
  · skip
    refine z_lload_n (pc := 10) dJ13_compare_74951_10 rfl rfl ?_
    refine z_lload_n (pc := 11) dJ13_compare_74951_11 rfl rfl ?_
    first | refine z_lc_neN (pc := 12) (tgt := 20) (by with_reducible rfl) (by with_reducible rfl) dJ13_compare_74951_12 rfl dJ13_compare_74951_13 (by decide) (by omega) (by omega) (fun hb12 => ?_) (fun hb12 => ?_) | refine z_lc_ne (pc := 12) (tgt := 20) dJ13_compare_74951_12 rfl dJ13_compare_74951_13 (by decide) (fun hb12 => ?_) (fun hb12 => ?_)
    · skip
      refine z_iconst (pc := 20) (v := nI 1) dJ13_compare_74951_20 (by decide) ?_
      refine z_iret (pc := 21) dJ13_compare_74951_21 rfl ?_
      first | exact ⟨Or.inl ⟨rfl, by omega⟩, rfl, rfl⟩ | exact ⟨Or.inr (Or.inl ⟨rfl, by omega⟩), rfl, rfl⟩ | exact ⟨Or.inr (Or.inr ⟨rfl, by omega⟩), rfl, rfl⟩
    · skip
      refine z_iconst (pc := 16) (v := nI 0) dJ13_compare_74951_16 (by decide) ?_
      refine z_goto (pc := 17) (tgt := 21) dJ13_compare_74951_17 (by decide) ?_
      refine z_iret (pc := 21) dJ13_compare_74951_21 rfl ?_
      first | exact ⟨Or.inl ⟨rfl, by omega⟩, rfl, rfl⟩ | exact ⟨Or.inr (Or.inl ⟨rfl, by omega⟩), rfl, rfl⟩ | exact ⟨Or.inr (Or.inr ⟨rfl, by omega⟩), rfl, rfl⟩
  · skip
    refine z_iconst (pc := 6) (v := -1) dJ13_compare_74951_6 (by decide) ?_
    refine z_goto (pc := 7) (tgt := 21) dJ13_compare_74951_7 (by decide) ?_
    refine z_iret (pc := 21) dJ13_compare_74951_21 rfl ?_
    first | exact ⟨Or.inl ⟨rfl, by omega⟩, rfl, rfl⟩ | exact ⟨Or.inr (Or.inl ⟨rfl, by omega⟩), rfl, rfl⟩ | exact ⟨Or.inr (Or.inr ⟨rfl, by omega⟩), rfl, rfl⟩
set_option maxHeartbeats 2000000 in
set_option maxRecDepth 20000 in
theorem l_X6_isReached {lay : List zL} {Q : Value → zI → zJ → Prop} {I : zI} {J : zJ} {d : Nat} {s : Nat} {n : Nat → Nat} (hS : kS lay s) (hV : vS I s n) (hB : bS n) {g j : Nat} (hs : g < 8) (hj : j < 3) : ∀ (m k : Nat), k + m = n 0 → (zany (fun i => zbit g i && decide (0 < n (7 + (3 * i + j)))) m k = true → Q (.int (nI 1)) I J) → (zany (fun i => zbit g i && decide (0 < n (7 + (3 * i + j)))) m k = false → Q (.int (nI 0)) I J) → Z lay MX6_isReached (d + 1) 2 [.ref s, .int (nI g), .int (nI j), .int (nI k)] [] I J Q := by
  have hS' := hS
  have hV' := hV
  have hB' := hB
  obtain ⟨h1, h2, h3, h4⟩ := hS
  obtain ⟨v0, v1, v2, v3, v4, v5⟩ := hV
  obtain ⟨b1, b2, b3, b4, b5, b6, b7, b8⟩ := hB
  intro m
  induction m with
  | zero =>
    intro k hk hq1 hq0
    refine z_iload_n (pc := 2) dX6_isReached_2 rfl rfl ?_
    refine z_aload_n (pc := 3) dX6_isReached_3 rfl rfl ?_
    refine z_getIv (pc := 4) dX6_isReached_4 f_RX6_25 (by assumption) rfl (by first | assumption | exact v3 _ (by omega) | exact v4 _ (by omega) | exact v5 _ (by omega) | rfl) ?_
    first | refine z_icmp_geN (pc := 7) (tgt := 40) (by with_reducible rfl) (by with_reducible rfl) dX6_isReached_7 (by decide) (by omega) (by omega) (fun hb7 => ?_) (fun hb7 => absurd hb7 (by omega)) | refine z_icmp_ge (pc := 7) (tgt := 40) dX6_isReached_7 (by decide) (fun hb7 => ?_) (fun hb7 => absurd hb7 (by omega))
    · skip
      refine z_iconst (pc := 40) (v := nI 0) dX6_isReached_40 (by decide) ?_
      refine z_zret (pc := 41) dX6_isReached_41 rfl (by first | decide | assumption) ?_
      exact hq0 rfl
  | succ m ih =>
    intro k hk hq1 hq0
    have hp : g / 2 ^ k % 2 < 2 := Nat.mod_lt _ (by decide)
    have hc : n (7 + (3 * k + j)) ≤ 20 := b6 _ (by omega)
    refine z_iload_n (pc := 2) dX6_isReached_2 rfl rfl ?_
    refine z_aload_n (pc := 3) dX6_isReached_3 rfl rfl ?_
    refine z_getIv (pc := 4) dX6_isReached_4 f_RX6_25 (by assumption) rfl (by first | assumption | exact v3 _ (by omega) | exact v4 _ (by omega) | exact v5 _ (by omega) | rfl) ?_
    first | refine z_icmp_geN (pc := 7) (tgt := 40) (by with_reducible rfl) (by with_reducible rfl) dX6_isReached_7 (by decide) (by omega) (by omega) (fun hb7 => absurd hb7 (by omega)) (fun hb7 => ?_) | refine z_icmp_ge (pc := 7) (tgt := 40) dX6_isReached_7 (by decide) (fun hb7 => absurd hb7 (by omega)) (fun hb7 => ?_)
    · skip
      refine z_iload_n (pc := 10) dX6_isReached_10 rfl rfl ?_
      refine z_iload_n (pc := 11) dX6_isReached_11 rfl rfl ?_
      refine z_ishr (pc := 12) dX6_isReached_12 ?_
      refine z_iconst (pc := 13) (v := nI 1) dX6_isReached_13 (by decide) ?_
      refine z_iand (pc := 14) dX6_isReached_14 ?_
      rw [z_bit _ hs _ (by omega)]
      refine z_iconst (pc := 15) (v := nI 1) dX6_isReached_15 (by decide) ?_
      first | refine z_icmp_neN (pc := 16) (tgt := 34) (by with_reducible rfl) (by with_reducible rfl) dX6_isReached_16 (by decide) (by omega) (by omega) (fun hb16 => ?_) (fun hb16 => ?_) | refine z_icmp_ne (pc := 16) (tgt := 34) dX6_isReached_16 (by decide) (fun hb16 => ?_) (fun hb16 => ?_)
      · skip
        refine z_iincN (pc := 34) (c := 1) dX6_isReached_34 rfl (by with_reducible rfl) (by decide) (by decide) rfl ?_
        try dsimp only [zst1, zst2, zk]
        refine z_goto (pc := 37) (tgt := 2) dX6_isReached_37 (by decide) ?_
        have e : (zbit g k && decide (0 < n (7 + (3 * k + j)))) = false := by first | (simp [zbit, hb16]; done) | (simp [hb29]; done) | (simp [zbit]; omega)
        exact ih (k + 1) (by omega) (fun q => hq1 (by simp only [zany]; rw [e, Bool.false_or]; exact q)) (fun q => hq0 (by simp only [zany]; rw [e, Bool.false_or]; exact q))
      · skip
        refine z_aload_n (pc := 19) dX6_isReached_19 rfl rfl ?_
        refine z_getR (pc := 20) dX6_isReached_20 f_RX6_9 (by assumption) rfl ?_
        refine z_iload_n (pc := 23) dX6_isReached_23 rfl rfl ?_
        refine z_iload_n (pc := 24) dX6_isReached_24 rfl rfl ?_
        refine z_callN (pc := 25) c_X9_place dX6_isReached_25 zN_46 m_MX9_place s_MX9_place rfl (by omega) rfl (Nat.le_of_ble_eq_true rfl) ?_
        rintro _ _ _ (⟨rfl, rfl, rfl⟩)
        try dsimp only [zov, Option.toList, List.cons_append, List.nil_append]
        refine z_ialoadv (pc := 28) dX6_isReached_28 (by assumption) (by with_reducible rfl) (by omega) (by decide) (by first | assumption | exact v3 _ (by omega) | exact v4 _ (by omega) | exact v5 _ (by omega) | rfl) ?_
        first | refine z_if_leN (pc := 29) (tgt := 34) (by with_reducible rfl) dX6_isReached_29 (by decide) (by omega) (fun hb29 => ?_) (fun hb29 => ?_) | refine z_if_le (pc := 29) (tgt := 34) dX6_isReached_29 (by decide) (fun hb29 => ?_) (fun hb29 => ?_)
        · skip
          refine z_iincN (pc := 34) (c := 1) dX6_isReached_34 rfl (by with_reducible rfl) (by decide) (by decide) rfl ?_
          try dsimp only [zst1, zst2, zk]
          refine z_goto (pc := 37) (tgt := 2) dX6_isReached_37 (by decide) ?_
          have e : (zbit g k && decide (0 < n (7 + (3 * k + j)))) = false := by first | (simp [zbit, hb16]; done) | (simp [hb29]; done) | (simp [zbit]; omega)
          exact ih (k + 1) (by omega) (fun q => hq1 (by simp only [zany]; rw [e, Bool.false_or]; exact q)) (fun q => hq0 (by simp only [zany]; rw [e, Bool.false_or]; exact q))
        · skip
          refine z_iconst (pc := 32) (v := nI 1) dX6_isReached_32 (by decide) ?_
          refine z_zret (pc := 33) dX6_isReached_33 rfl (by first | decide | assumption) ?_
          refine hq1 ?_
          have e : (zbit g k && decide (0 < n (7 + (3 * k + j)))) = true := by simp [zbit, hb16]; omega
          simp only [zany]; rw [e, Bool.true_or]
set_option maxHeartbeats 2000000 in
set_option maxRecDepth 20000 in
theorem c_X6_isReached {lay : List zL} {I : zI} {J : zJ} {s : Nat} {n : Nat → Nat} (hS : kS lay s) (hV : vS I s n) (hB : bS n) {g j : Nat} (hs : g < 8) (hj : j < 3) : zMet lay MX6_isReached 1 [.ref s, .int (nI g), .int (nI j)] I J (fun r I' J' => ((r = .int (nI 1) ∧ zre1 n g j = true) ∨ (r = .int (nI 0) ∧ zre1 n g j = false)) ∧ I = I' ∧ J = J') := by
  refine zMet_of (t := MX6_isReached) (ls := [.ref s, .int (nI g), .int (nI j), .null]) (by decide +kernel) (Nat.le_of_ble_eq_true rfl) rfl ?_
  have hS' := hS
  have hV' := hV
  have hB' := hB
  obtain ⟨h1, h2, h3, h4⟩ := hS
  obtain ⟨v0, v1, v2, v3, v4, v5⟩ := hV
  obtain ⟨b1, b2, b3, b4, b5, b6, b7, b8⟩ := hB
  refine z_iconst (pc := 0) (v := nI 0) dX6_isReached_0 (by decide) ?_
  refine z_istore_n (pc := 1) dX6_isReached_1 rfl (by decide) rfl ?_
  try dsimp only [zst1, zst2, zk]
  exact l_X6_isReached hS' hV' hB' hs hj (n 0) 0 (Nat.zero_add _) (fun q => ⟨Or.inl ⟨rfl, q⟩, rfl, rfl⟩) (fun q => ⟨Or.inr ⟨rfl, q⟩, rfl, rfl⟩)
set_option maxHeartbeats 2000000 in
set_option maxRecDepth 20000 in
theorem l_X6_marginsReached {lay : List zL} {Q : Value → zI → zJ → Prop} {I : zI} {J : zJ} {d : Nat} {s : Nat} {n : Nat → Nat} (hS : kS lay s) (hV : vS I s n) (hB : bS n) {g : Nat} (hs : g < 8) : ∀ (m k x : Nat), k + m = n 1 → Q (.int (nI (x + zmsum (zif (zre1 n g) (fun j => n (25 + (3 + j)))) m k))) I J → Z lay MX6_marginsReached (d + 2) 4 [.ref s, .int (nI g), .int (nI x), .int (nI k)] [] I J Q := by
  have hS' := hS
  have hV' := hV
  have hB' := hB
  obtain ⟨h1, h2, h3, h4⟩ := hS
  obtain ⟨v0, v1, v2, v3, v4, v5⟩ := hV
  obtain ⟨b1, b2, b3, b4, b5, b6, b7, b8⟩ := hB
  intro m
  induction m with
  | zero =>
    intro k x hk hq
    refine z_iload_n (pc := 4) dX6_marginsReached_4 rfl rfl ?_
    refine z_aload_n (pc := 5) dX6_marginsReached_5 rfl rfl ?_
    refine z_getIv (pc := 6) dX6_marginsReached_6 f_RX6_29 (by assumption) rfl (by first | assumption | exact v3 _ (by omega) | exact v4 _ (by omega) | exact v5 _ (by omega) | rfl) ?_
    first | refine z_icmp_geN (pc := 9) (tgt := 40) (by with_reducible rfl) (by with_reducible rfl) dX6_marginsReached_9 (by decide) (by omega) (by omega) (fun hb9 => ?_) (fun hb9 => absurd hb9 (by omega)) | refine z_icmp_ge (pc := 9) (tgt := 40) dX6_marginsReached_9 (by decide) (fun hb9 => ?_) (fun hb9 => absurd hb9 (by omega))
    · skip
      refine z_iload_n (pc := 40) dX6_marginsReached_40 rfl rfl ?_
      refine z_iret (pc := 41) dX6_marginsReached_41 rfl ?_
      exact hq
  | succ m ih =>
    intro k x hk hq
    refine z_iload_n (pc := 4) dX6_marginsReached_4 rfl rfl ?_
    refine z_aload_n (pc := 5) dX6_marginsReached_5 rfl rfl ?_
    refine z_getIv (pc := 6) dX6_marginsReached_6 f_RX6_29 (by assumption) rfl (by first | assumption | exact v3 _ (by omega) | exact v4 _ (by omega) | exact v5 _ (by omega) | rfl) ?_
    first | refine z_icmp_geN (pc := 9) (tgt := 40) (by with_reducible rfl) (by with_reducible rfl) dX6_marginsReached_9 (by decide) (by omega) (by omega) (fun hb9 => absurd hb9 (by omega)) (fun hb9 => ?_) | refine z_icmp_ge (pc := 9) (tgt := 40) dX6_marginsReached_9 (by decide) (fun hb9 => absurd hb9 (by omega)) (fun hb9 => ?_)
    · skip
      refine z_aload_n (pc := 12) dX6_marginsReached_12 rfl rfl ?_
      refine z_iload_n (pc := 13) dX6_marginsReached_13 rfl rfl ?_
      refine z_iload_n (pc := 14) dX6_marginsReached_14 rfl rfl ?_
      refine z_callV (pc := 15) (c_X6_isReached (by assumption) (by assumption) (by assumption) (by omega) (by omega)) dX6_marginsReached_15 l_RX6_68 m_MX6_isReached n_MX6_isReached e_MX6_isReached rfl (by omega) (by assumption) rfl rfl (Nat.le_of_ble_eq_true rfl) ?_
      rintro _ _ _ ⟨⟨rfl, hre⟩ | ⟨rfl, hre⟩, rfl, rfl⟩
      · skip
        try dsimp only [zov, Option.toList, List.cons_append, List.nil_append]
        first | refine z_if_eqN (pc := 18) (tgt := 34) (by with_reducible rfl) dX6_marginsReached_18 (by decide) (by omega) (fun hb18 => ?_) (fun hb18 => ?_) | refine z_if_eq (pc := 18) (tgt := 34) dX6_marginsReached_18 (by decide) (fun hb18 => ?_) (fun hb18 => ?_)
        · skip
          first | refine z_iincN (pc := 34) (c := 1) dX6_marginsReached_34 rfl (by with_reducible rfl) (by decide) (by decide) rfl ?_ | refine z_iinc (pc := 34) dX6_marginsReached_34 rfl rfl (by decide) rfl ?_
          try dsimp only [zst1, zst2, zk]
          refine z_goto (pc := 37) (tgt := 4) dX6_marginsReached_37 (by decide) ?_
          first
            | exact ih (k + 1) _ (by omega) (by simp only [zmsum, zif] at hq; rw [if_pos hre] at hq; rw [Nat.add_assoc]; exact hq)
            | exact ih (k + 1) _ (by omega) (by simp only [zmsum, zif] at hq; rw [hre, Nat.zero_add] at hq; exact hq)
            | exact ih (k + 1) _ (by omega) (by simp only [zmsum, zif] at hq; rw [if_neg (by rw [hre]; decide), Nat.zero_add] at hq; exact hq)
            | exact absurd hb18 (by decide)
        · skip
          refine z_iload_n (pc := 21) dX6_marginsReached_21 rfl rfl ?_
          refine z_aload_n (pc := 22) dX6_marginsReached_22 rfl rfl ?_
          refine z_getR (pc := 23) dX6_marginsReached_23 f_RX6_18 (by assumption) rfl ?_
          refine z_iconst (pc := 26) (v := nI 1) dX6_marginsReached_26 (by decide) ?_
          refine z_iload_n (pc := 27) dX6_marginsReached_27 rfl rfl ?_
          refine z_callN (pc := 28) c_X9_place dX6_marginsReached_28 zN_46 m_MX9_place s_MX9_place rfl (by omega) rfl (Nat.le_of_ble_eq_true rfl) ?_
          rintro _ _ _ (⟨rfl, rfl, rfl⟩)
          try dsimp only [zov, Option.toList, List.cons_append, List.nil_append]
          refine z_ialoadv (pc := 31) dX6_marginsReached_31 (by assumption) (by with_reducible rfl) (by omega) (by decide) (by first | assumption | exact v3 _ (by omega) | exact v4 _ (by omega) | exact v5 _ (by omega) | rfl) ?_
          first | refine z_iaddN (pc := 32) (by with_reducible rfl) (by with_reducible rfl) dX6_marginsReached_32 ?_ | refine z_iadd (pc := 32) dX6_marginsReached_32 ?_
          refine z_istore_n (pc := 33) dX6_marginsReached_33 rfl (by decide) rfl ?_
          try dsimp only [zst1, zst2, zk]
          first | refine z_iincN (pc := 34) (c := 1) dX6_marginsReached_34 rfl (by with_reducible rfl) (by decide) (by decide) rfl ?_ | refine z_iinc (pc := 34) dX6_marginsReached_34 rfl rfl (by decide) rfl ?_
          try dsimp only [zst1, zst2, zk]
          refine z_goto (pc := 37) (tgt := 4) dX6_marginsReached_37 (by decide) ?_
          first
            | exact ih (k + 1) _ (by omega) (by simp only [zmsum, zif] at hq; rw [if_pos hre] at hq; rw [Nat.add_assoc]; exact hq)
            | exact ih (k + 1) _ (by omega) (by simp only [zmsum, zif] at hq; rw [hre, Nat.zero_add] at hq; exact hq)
            | exact ih (k + 1) _ (by omega) (by simp only [zmsum, zif] at hq; rw [if_neg (by rw [hre]; decide), Nat.zero_add] at hq; exact hq)
            | exact absurd hb18 (by decide)
      · skip
        try dsimp only [zov, Option.toList, List.cons_append, List.nil_append]
        first | refine z_if_eqN (pc := 18) (tgt := 34) (by with_reducible rfl) dX6_marginsReached_18 (by decide) (by omega) (fun hb18 => ?_) (fun hb18 => ?_) | refine z_if_eq (pc := 18) (tgt := 34) dX6_marginsReached_18 (by decide) (fun hb18 => ?_) (fun hb18 => ?_)
        · skip
          first | refine z_iincN (pc := 34) (c := 1) dX6_marginsReached_34 rfl (by with_reducible rfl) (by decide) (by decide) rfl ?_ | refine z_iinc (pc := 34) dX6_marginsReached_34 rfl rfl (by decide) rfl ?_
          try dsimp only [zst1, zst2, zk]
          refine z_goto (pc := 37) (tgt := 4) dX6_marginsReached_37 (by decide) ?_
          first
            | exact ih (k + 1) _ (by omega) (by simp only [zmsum, zif] at hq; rw [if_pos hre] at hq; rw [Nat.add_assoc]; exact hq)
            | exact ih (k + 1) _ (by omega) (by simp only [zmsum, zif] at hq; rw [hre, Nat.zero_add] at hq; exact hq)
            | exact ih (k + 1) _ (by omega) (by simp only [zmsum, zif] at hq; rw [if_neg (by rw [hre]; decide), Nat.zero_add] at hq; exact hq)
            | exact absurd hb18 (by decide)
        · skip
          refine z_iload_n (pc := 21) dX6_marginsReached_21 rfl rfl ?_
          refine z_aload_n (pc := 22) dX6_marginsReached_22 rfl rfl ?_
          refine z_getR (pc := 23) dX6_marginsReached_23 f_RX6_18 (by assumption) rfl ?_
          refine z_iconst (pc := 26) (v := nI 1) dX6_marginsReached_26 (by decide) ?_
          refine z_iload_n (pc := 27) dX6_marginsReached_27 rfl rfl ?_
          refine z_callN (pc := 28) c_X9_place dX6_marginsReached_28 zN_46 m_MX9_place s_MX9_place rfl (by omega) rfl (Nat.le_of_ble_eq_true rfl) ?_
          rintro _ _ _ (⟨rfl, rfl, rfl⟩)
          try dsimp only [zov, Option.toList, List.cons_append, List.nil_append]
          refine z_ialoadv (pc := 31) dX6_marginsReached_31 (by assumption) (by with_reducible rfl) (by omega) (by decide) (by first | assumption | exact v3 _ (by omega) | exact v4 _ (by omega) | exact v5 _ (by omega) | rfl) ?_
          first | refine z_iaddN (pc := 32) (by with_reducible rfl) (by with_reducible rfl) dX6_marginsReached_32 ?_ | refine z_iadd (pc := 32) dX6_marginsReached_32 ?_
          refine z_istore_n (pc := 33) dX6_marginsReached_33 rfl (by decide) rfl ?_
          try dsimp only [zst1, zst2, zk]
          first | refine z_iincN (pc := 34) (c := 1) dX6_marginsReached_34 rfl (by with_reducible rfl) (by decide) (by decide) rfl ?_ | refine z_iinc (pc := 34) dX6_marginsReached_34 rfl rfl (by decide) rfl ?_
          try dsimp only [zst1, zst2, zk]
          refine z_goto (pc := 37) (tgt := 4) dX6_marginsReached_37 (by decide) ?_
          first
            | exact ih (k + 1) _ (by omega) (by simp only [zmsum, zif] at hq; rw [if_pos hre] at hq; rw [Nat.add_assoc]; exact hq)
            | exact ih (k + 1) _ (by omega) (by simp only [zmsum, zif] at hq; rw [hre, Nat.zero_add] at hq; exact hq)
            | exact ih (k + 1) _ (by omega) (by simp only [zmsum, zif] at hq; rw [if_neg (by rw [hre]; decide), Nat.zero_add] at hq; exact hq)
            | exact absurd hb18 (by decide)
set_option maxHeartbeats 2000000 in
set_option maxRecDepth 20000 in
theorem c_X6_marginsReached {lay : List zL} {I : zI} {J : zJ} {s : Nat} {n : Nat → Nat} (hS : kS lay s) (hV : vS I s n) (hB : bS n) {g : Nat} (hs : g < 8) : zMet lay MX6_marginsReached 2 [.ref s, .int (nI g)] I J (fun r I' J' => r = .int (nI (zre n g)) ∧ I = I' ∧ J = J') := by
  refine zMet_of (t := MX6_marginsReached) (ls := [.ref s, .int (nI g), .null, .null]) (by decide +kernel) (Nat.le_of_ble_eq_true rfl) rfl ?_
  have hS' := hS
  have hV' := hV
  have hB' := hB
  obtain ⟨h1, h2, h3, h4⟩ := hS
  obtain ⟨v0, v1, v2, v3, v4, v5⟩ := hV
  obtain ⟨b1, b2, b3, b4, b5, b6, b7, b8⟩ := hB
  refine z_iconst (pc := 0) (v := nI 0) dX6_marginsReached_0 (by decide) ?_
  refine z_istore_n (pc := 1) dX6_marginsReached_1 rfl (by decide) rfl ?_
  try dsimp only [zst1, zst2, zk]
  refine z_iconst (pc := 2) (v := nI 0) dX6_marginsReached_2 (by decide) ?_
  refine z_istore_n (pc := 3) dX6_marginsReached_3 rfl (by decide) rfl ?_
  try dsimp only [zst1, zst2, zk]
  exact l_X6_marginsReached hS' hV' hB' hs (n 1) 0 0 (Nat.zero_add _) ⟨by rw [Nat.zero_add]; rfl, rfl, rfl⟩
theorem zmsum_le {f : Nat → Nat} {b : Nat} : ∀ (m k : Nat), (∀ j, k ≤ j → j < k + m → f j ≤ b) → zmsum f m k ≤ m * b
  | 0, _, _ => by simp [zmsum]
  | m + 1, k, h => by
    have h1 := zmsum_le m (k + 1) (fun j h1 h2 => h j (by omega) (by omega))
    have h2 := h k (Nat.le_refl k) (by omega)
    simp only [zmsum]
    rw [Nat.succ_mul]
    omega
theorem zmo_le {n : Nat → Nat} (hB : bS n) (g : Nat) : zmo n g ≤ 180 := by
  obtain ⟨b1, b2, b3, b4, b5, b6, b7, b8⟩ := hB
  have h := zmsum_le (f := zif (zbit g) (fun i => n (25 + i))) (b := 60) (n 0) 0 (fun j _ h => by
    simp only [zif]
    split
    · exact b8 j (by omega)
    · omega)
  unfold zmo
  omega
theorem zre_le {n : Nat → Nat} (hB : bS n) (g : Nat) : zre n g ≤ 180 := by
  obtain ⟨b1, b2, b3, b4, b5, b6, b7, b8⟩ := hB
  have h := zmsum_le (f := zif (zre1 n g) (fun j => n (25 + (3 + j)))) (b := 60) (n 1) 0 (fun j _ h => by
    simp only [zif]
    split
    · exact b8 (3 + j) (by omega)
    · omega)
  unfold zre
  omega
theorem zall_le {n : Nat → Nat} (hB : bS n) {w : Nat} (hw : w ≤ 2) : zall n w ≤ 180 := by
  obtain ⟨b1, b2, b3, b4, b5, b6, b7, b8⟩ := hB
  have hz := zlines_le (w := w) b2 b4
  have h := zmsum_le (f := fun k => n (25 + (3 * w + k))) (b := 60) (zlines (n 0) (n 1) w) 0 (fun j _ h => b8 (3 * w + j) (by omega))
  unfold zall
  omega
theorem zpop_le (k : Nat) : zpop k ≤ 3 := by unfold zpop; omega
theorem zpow_r {r : Nat} (h1 : 1 ≤ r) (h3 : r ≤ 3) : 2 ^ r ≤ 8 ∧ 2 ≤ 2 ^ r := by
  rcases (show r = 1 ∨ r = 2 ∨ r = 3 by omega) with rfl | rfl | rfl <;> decide
theorem zfo_le (P : Nat → Bool) : ∀ (m s b : Nat), s + m ≤ 8 → b < 8 → zfo P m s b < 8
  | 0, _, _, _, h => h
  | m + 1, s, b, h1, h2 => by
    simp only [zfo]
    refine zfo_le P m (s + 1) _ (by omega) ?_
    split
    · omega
    · exact h2
theorem zforb_lt {n : Nat → Nat} (hB : bS n) : zforb n < 8 := by
  have h := zpow_r hB.1 hB.2.1
  exact zfo_le _ _ _ _ (by omega) (by omega)
set_option maxHeartbeats 2000000 in
set_option maxRecDepth 20000 in
theorem l_X6_forbids {lay : List zL} {Q : Value → zI → zJ → Prop} {I : zI} {J : zJ} {d : Nat} {s : Nat} {n : Nat → Nat} (hS : kS lay s) (hV : vS I s n) (hB : bS n) : ∀ (m g b : Nat) (w : Value), g + m = 2 ^ n 0 → b < 8 → Q (.int (nI (zfo (zfb n) m g b))) I J → Z lay MX6_forbids (d + 3) 4 [.ref s, .int (nI b), .int (nI g), w] [] I J Q := by
  have hS' := hS
  have hV' := hV
  have hB' := hB
  obtain ⟨h1, h2, h3, h4⟩ := hS
  obtain ⟨v0, v1, v2, v3, v4, v5⟩ := hV
  obtain ⟨b1, b2, b3, b4, b5, b6, b7, b8⟩ := hB
  have hp8 := zpow_r b1 b2
  intro m
  induction m with
  | zero =>
    intro g b w hk hb hq
    refine z_iload_n (pc := 4) dX6_forbids_4 rfl rfl ?_
    refine z_iconst (pc := 5) (v := nI 1) dX6_forbids_5 (by decide) ?_
    refine z_aload_n (pc := 6) dX6_forbids_6 rfl rfl ?_
    refine z_getIv (pc := 7) dX6_forbids_7 f_RX6_25 (by assumption) rfl (by first | assumption | exact v3 _ (by omega) | exact v4 _ (by omega) | exact v5 _ (by omega) | rfl) ?_
    refine z_ishl (pc := 10) dX6_forbids_10 ?_
    rw [z_shl _ (by omega)]
    first | refine z_icmp_geN (pc := 11) (tgt := 60) (by with_reducible rfl) (by with_reducible rfl) dX6_forbids_11 (by decide) (by omega) (by omega) (fun hb11 => ?_) (fun hb11 => absurd hb11 (by omega)) | refine z_icmp_ge (pc := 11) (tgt := 60) dX6_forbids_11 (by decide) (fun hb11 => ?_) (fun hb11 => absurd hb11 (by omega))
    · skip
      refine z_iload_n (pc := 60) dX6_forbids_60 rfl rfl ?_
      refine z_iret (pc := 61) dX6_forbids_61 rfl ?_
      exact hq
  | succ m ih =>
    intro g b w hk hb hq
    have hpg := zpop_le g
    have hpb := zpop_le b
    have hmo := zmo_le hB' g
    have hre := zre_le hB' g
    refine z_iload_n (pc := 4) dX6_forbids_4 rfl rfl ?_
    refine z_iconst (pc := 5) (v := nI 1) dX6_forbids_5 (by decide) ?_
    refine z_aload_n (pc := 6) dX6_forbids_6 rfl rfl ?_
    refine z_getIv (pc := 7) dX6_forbids_7 f_RX6_25 (by assumption) rfl (by first | assumption | exact v3 _ (by omega) | exact v4 _ (by omega) | exact v5 _ (by omega) | rfl) ?_
    refine z_ishl (pc := 10) dX6_forbids_10 ?_
    rw [z_shl _ (by omega)]
    first | refine z_icmp_geN (pc := 11) (tgt := 60) (by with_reducible rfl) (by with_reducible rfl) dX6_forbids_11 (by decide) (by omega) (by omega) (fun hb11 => absurd hb11 (by omega)) (fun hb11 => ?_) | refine z_icmp_ge (pc := 11) (tgt := 60) dX6_forbids_11 (by decide) (fun hb11 => absurd hb11 (by omega)) (fun hb11 => ?_)
    · skip
      refine z_iload_n (pc := 14) dX6_forbids_14 rfl rfl ?_
      first | refine z_if_eqN (pc := 15) (tgt := 29) (by with_reducible rfl) dX6_forbids_15 (by decide) (by omega) (fun hb15 => ?_) (fun hb15 => ?_) | refine z_if_eq (pc := 15) (tgt := 29) dX6_forbids_15 (by decide) (fun hb15 => ?_) (fun hb15 => ?_)
      · skip
        refine z_iconst (pc := 29) (v := nI 1) dX6_forbids_29 (by decide) ?_
        refine z_goto (pc := 30) (tgt := 34) dX6_forbids_30 (by decide) ?_
        refine z_istore_n (pc := 34) dX6_forbids_34 rfl (by decide) rfl ?_
        try dsimp only [zst1, zst2, zk]
        refine z_iload_n (pc := 35) dX6_forbids_35 rfl rfl ?_
        skip
        first | refine z_if_eqN (pc := 36) (tgt := 54) (by with_reducible rfl) dX6_forbids_36 (by decide) (by omega) (fun hb36 => ?_) (fun hb36 => ?_) | refine z_if_eq (pc := 36) (tgt := 54) dX6_forbids_36 (by decide) (fun hb36 => ?_) (fun hb36 => ?_)
        · skip
          refine z_iincN (pc := 54) (c := 1) dX6_forbids_54 rfl (by with_reducible rfl) (by decide) (by decide) rfl ?_
          try dsimp only [zst1, zst2, zk]
          refine z_goto (pc := 57) (tgt := 4) dX6_forbids_57 (by decide) ?_
          simp only [zfo] at hq
          first
            | exact ih (g + 1) _ _ (by omega) (by omega) (by rw [if_pos (by refine ⟨by omega, ?_⟩; simp only [zfb, decide_eq_true_eq]; omega)] at hq; exact hq)
            | exact ih (g + 1) _ _ (by omega) (by omega) (by rw [if_neg (by rintro ⟨q1, q2⟩; simp only [zfb, decide_eq_true_eq] at q2; omega)] at hq; exact hq)
        · skip
          refine z_aload_n (pc := 39) dX6_forbids_39 rfl rfl ?_
          refine z_iload_n (pc := 40) dX6_forbids_40 rfl rfl ?_
          refine z_callV (pc := 41) (c_X6_marginsOf (by assumption) (by assumption) (by assumption) (by omega)) dX6_forbids_41 l_RX6_62 m_MX6_marginsOf n_MX6_marginsOf e_MX6_marginsOf rfl (by omega) (by assumption) rfl rfl (Nat.le_of_ble_eq_true rfl) ?_
          rintro _ _ _ (⟨rfl, rfl, rfl⟩)
          try dsimp only [zov, Option.toList, List.cons_append, List.nil_append]
          refine z_aload_n (pc := 44) dX6_forbids_44 rfl rfl ?_
          refine z_iload_n (pc := 45) dX6_forbids_45 rfl rfl ?_
          refine z_callV (pc := 46) (c_X6_marginsReached (by assumption) (by assumption) (by assumption) (by omega)) dX6_forbids_46 l_RX6_65 m_MX6_marginsReached n_MX6_marginsReached e_MX6_marginsReached rfl (by omega) (by assumption) rfl rfl (Nat.le_of_ble_eq_true rfl) ?_
          rintro _ _ _ (⟨rfl, rfl, rfl⟩)
          try dsimp only [zov, Option.toList, List.cons_append, List.nil_append]
          first | refine z_icmp_leN (pc := 49) (tgt := 54) (by with_reducible rfl) (by with_reducible rfl) dX6_forbids_49 (by decide) (by omega) (by omega) (fun hb49 => ?_) (fun hb49 => ?_) | refine z_icmp_le (pc := 49) (tgt := 54) dX6_forbids_49 (by decide) (fun hb49 => ?_) (fun hb49 => ?_)
          · skip
            refine z_iincN (pc := 54) (c := 1) dX6_forbids_54 rfl (by with_reducible rfl) (by decide) (by decide) rfl ?_
            try dsimp only [zst1, zst2, zk]
            refine z_goto (pc := 57) (tgt := 4) dX6_forbids_57 (by decide) ?_
            simp only [zfo] at hq
            first
              | exact ih (g + 1) _ _ (by omega) (by omega) (by rw [if_pos (by refine ⟨by omega, ?_⟩; simp only [zfb, decide_eq_true_eq]; omega)] at hq; exact hq)
              | exact ih (g + 1) _ _ (by omega) (by omega) (by rw [if_neg (by rintro ⟨q1, q2⟩; simp only [zfb, decide_eq_true_eq] at q2; omega)] at hq; exact hq)
          · skip
            refine z_iload_n (pc := 52) dX6_forbids_52 rfl rfl ?_
            refine z_istore_n (pc := 53) dX6_forbids_53 rfl (by decide) rfl ?_
            try dsimp only [zst1, zst2, zk]
            refine z_iincN (pc := 54) (c := 1) dX6_forbids_54 rfl (by with_reducible rfl) (by decide) (by decide) rfl ?_
            try dsimp only [zst1, zst2, zk]
            refine z_goto (pc := 57) (tgt := 4) dX6_forbids_57 (by decide) ?_
            simp only [zfo] at hq
            first
              | exact ih (g + 1) _ _ (by omega) (by omega) (by rw [if_pos (by refine ⟨by omega, ?_⟩; simp only [zfb, decide_eq_true_eq]; omega)] at hq; exact hq)
              | exact ih (g + 1) _ _ (by omega) (by omega) (by rw [if_neg (by rintro ⟨q1, q2⟩; simp only [zfb, decide_eq_true_eq] at q2; omega)] at hq; exact hq)
      · skip
        refine z_iload_n (pc := 18) dX6_forbids_18 rfl rfl ?_
        refine z_callS (pc := 19) (c_bitCount (by omega)) dX6_forbids_19 l_RX6_57 m_MJ6_bitCount_0f7a4 s_MJ6_bitCount_0f7a4 rfl (by omega) rfl (Nat.le_of_ble_eq_true rfl) ?_
        rintro _ _ _ (⟨rfl, rfl, rfl⟩)
        try dsimp only [zov, Option.toList, List.cons_append, List.nil_append]
        refine z_iload_n (pc := 22) dX6_forbids_22 rfl rfl ?_
        refine z_callS (pc := 23) (c_bitCount (by omega)) dX6_forbids_23 l_RX6_57 m_MJ6_bitCount_0f7a4 s_MJ6_bitCount_0f7a4 rfl (by omega) rfl (Nat.le_of_ble_eq_true rfl) ?_
        rintro _ _ _ (⟨rfl, rfl, rfl⟩)
        try dsimp only [zov, Option.toList, List.cons_append, List.nil_append]
        first | refine z_icmp_geN (pc := 26) (tgt := 33) (by with_reducible rfl) (by with_reducible rfl) dX6_forbids_26 (by decide) (by omega) (by omega) (fun hb26 => ?_) (fun hb26 => ?_) | refine z_icmp_ge (pc := 26) (tgt := 33) dX6_forbids_26 (by decide) (fun hb26 => ?_) (fun hb26 => ?_)
        · skip
          refine z_iconst (pc := 33) (v := nI 0) dX6_forbids_33 (by decide) ?_
          refine z_istore_n (pc := 34) dX6_forbids_34 rfl (by decide) rfl ?_
          try dsimp only [zst1, zst2, zk]
          refine z_iload_n (pc := 35) dX6_forbids_35 rfl rfl ?_
          skip
          first | refine z_if_eqN (pc := 36) (tgt := 54) (by with_reducible rfl) dX6_forbids_36 (by decide) (by omega) (fun hb36 => ?_) (fun hb36 => ?_) | refine z_if_eq (pc := 36) (tgt := 54) dX6_forbids_36 (by decide) (fun hb36 => ?_) (fun hb36 => ?_)
          · skip
            refine z_iincN (pc := 54) (c := 1) dX6_forbids_54 rfl (by with_reducible rfl) (by decide) (by decide) rfl ?_
            try dsimp only [zst1, zst2, zk]
            refine z_goto (pc := 57) (tgt := 4) dX6_forbids_57 (by decide) ?_
            simp only [zfo] at hq
            first
              | exact ih (g + 1) _ _ (by omega) (by omega) (by rw [if_pos (by refine ⟨by omega, ?_⟩; simp only [zfb, decide_eq_true_eq]; omega)] at hq; exact hq)
              | exact ih (g + 1) _ _ (by omega) (by omega) (by rw [if_neg (by rintro ⟨q1, q2⟩; simp only [zfb, decide_eq_true_eq] at q2; omega)] at hq; exact hq)
          · skip
            refine z_aload_n (pc := 39) dX6_forbids_39 rfl rfl ?_
            refine z_iload_n (pc := 40) dX6_forbids_40 rfl rfl ?_
            refine z_callV (pc := 41) (c_X6_marginsOf (by assumption) (by assumption) (by assumption) (by omega)) dX6_forbids_41 l_RX6_62 m_MX6_marginsOf n_MX6_marginsOf e_MX6_marginsOf rfl (by omega) (by assumption) rfl rfl (Nat.le_of_ble_eq_true rfl) ?_
            rintro _ _ _ (⟨rfl, rfl, rfl⟩)
            try dsimp only [zov, Option.toList, List.cons_append, List.nil_append]
            refine z_aload_n (pc := 44) dX6_forbids_44 rfl rfl ?_
            refine z_iload_n (pc := 45) dX6_forbids_45 rfl rfl ?_
            refine z_callV (pc := 46) (c_X6_marginsReached (by assumption) (by assumption) (by assumption) (by omega)) dX6_forbids_46 l_RX6_65 m_MX6_marginsReached n_MX6_marginsReached e_MX6_marginsReached rfl (by omega) (by assumption) rfl rfl (Nat.le_of_ble_eq_true rfl) ?_
            rintro _ _ _ (⟨rfl, rfl, rfl⟩)
            try dsimp only [zov, Option.toList, List.cons_append, List.nil_append]
            first | refine z_icmp_leN (pc := 49) (tgt := 54) (by with_reducible rfl) (by with_reducible rfl) dX6_forbids_49 (by decide) (by omega) (by omega) (fun hb49 => ?_) (fun hb49 => ?_) | refine z_icmp_le (pc := 49) (tgt := 54) dX6_forbids_49 (by decide) (fun hb49 => ?_) (fun hb49 => ?_)
            · skip
              refine z_iincN (pc := 54) (c := 1) dX6_forbids_54 rfl (by with_reducible rfl) (by decide) (by decide) rfl ?_
              try dsimp only [zst1, zst2, zk]
              refine z_goto (pc := 57) (tgt := 4) dX6_forbids_57 (by decide) ?_
              simp only [zfo] at hq
              first
                | exact ih (g + 1) _ _ (by omega) (by omega) (by rw [if_pos (by refine ⟨by omega, ?_⟩; simp only [zfb, decide_eq_true_eq]; omega)] at hq; exact hq)
                | exact ih (g + 1) _ _ (by omega) (by omega) (by rw [if_neg (by rintro ⟨q1, q2⟩; simp only [zfb, decide_eq_true_eq] at q2; omega)] at hq; exact hq)
            · skip
              refine z_iload_n (pc := 52) dX6_forbids_52 rfl rfl ?_
              refine z_istore_n (pc := 53) dX6_forbids_53 rfl (by decide) rfl ?_
              try dsimp only [zst1, zst2, zk]
              refine z_iincN (pc := 54) (c := 1) dX6_forbids_54 rfl (by with_reducible rfl) (by decide) (by decide) rfl ?_
              try dsimp only [zst1, zst2, zk]
              refine z_goto (pc := 57) (tgt := 4) dX6_forbids_57 (by decide) ?_
              simp only [zfo] at hq
              first
                | exact ih (g + 1) _ _ (by omega) (by omega) (by rw [if_pos (by refine ⟨by omega, ?_⟩; simp only [zfb, decide_eq_true_eq]; omega)] at hq; exact hq)
                | exact ih (g + 1) _ _ (by omega) (by omega) (by rw [if_neg (by rintro ⟨q1, q2⟩; simp only [zfb, decide_eq_true_eq] at q2; omega)] at hq; exact hq)
        · skip
          refine z_iconst (pc := 29) (v := nI 1) dX6_forbids_29 (by decide) ?_
          refine z_goto (pc := 30) (tgt := 34) dX6_forbids_30 (by decide) ?_
          refine z_istore_n (pc := 34) dX6_forbids_34 rfl (by decide) rfl ?_
          try dsimp only [zst1, zst2, zk]
          refine z_iload_n (pc := 35) dX6_forbids_35 rfl rfl ?_
          skip
          first | refine z_if_eqN (pc := 36) (tgt := 54) (by with_reducible rfl) dX6_forbids_36 (by decide) (by omega) (fun hb36 => ?_) (fun hb36 => ?_) | refine z_if_eq (pc := 36) (tgt := 54) dX6_forbids_36 (by decide) (fun hb36 => ?_) (fun hb36 => ?_)
          · skip
            refine z_iincN (pc := 54) (c := 1) dX6_forbids_54 rfl (by with_reducible rfl) (by decide) (by decide) rfl ?_
            try dsimp only [zst1, zst2, zk]
            refine z_goto (pc := 57) (tgt := 4) dX6_forbids_57 (by decide) ?_
            simp only [zfo] at hq
            first
              | exact ih (g + 1) _ _ (by omega) (by omega) (by rw [if_pos (by refine ⟨by omega, ?_⟩; simp only [zfb, decide_eq_true_eq]; omega)] at hq; exact hq)
              | exact ih (g + 1) _ _ (by omega) (by omega) (by rw [if_neg (by rintro ⟨q1, q2⟩; simp only [zfb, decide_eq_true_eq] at q2; omega)] at hq; exact hq)
          · skip
            refine z_aload_n (pc := 39) dX6_forbids_39 rfl rfl ?_
            refine z_iload_n (pc := 40) dX6_forbids_40 rfl rfl ?_
            refine z_callV (pc := 41) (c_X6_marginsOf (by assumption) (by assumption) (by assumption) (by omega)) dX6_forbids_41 l_RX6_62 m_MX6_marginsOf n_MX6_marginsOf e_MX6_marginsOf rfl (by omega) (by assumption) rfl rfl (Nat.le_of_ble_eq_true rfl) ?_
            rintro _ _ _ (⟨rfl, rfl, rfl⟩)
            try dsimp only [zov, Option.toList, List.cons_append, List.nil_append]
            refine z_aload_n (pc := 44) dX6_forbids_44 rfl rfl ?_
            refine z_iload_n (pc := 45) dX6_forbids_45 rfl rfl ?_
            refine z_callV (pc := 46) (c_X6_marginsReached (by assumption) (by assumption) (by assumption) (by omega)) dX6_forbids_46 l_RX6_65 m_MX6_marginsReached n_MX6_marginsReached e_MX6_marginsReached rfl (by omega) (by assumption) rfl rfl (Nat.le_of_ble_eq_true rfl) ?_
            rintro _ _ _ (⟨rfl, rfl, rfl⟩)
            try dsimp only [zov, Option.toList, List.cons_append, List.nil_append]
            first | refine z_icmp_leN (pc := 49) (tgt := 54) (by with_reducible rfl) (by with_reducible rfl) dX6_forbids_49 (by decide) (by omega) (by omega) (fun hb49 => ?_) (fun hb49 => ?_) | refine z_icmp_le (pc := 49) (tgt := 54) dX6_forbids_49 (by decide) (fun hb49 => ?_) (fun hb49 => ?_)
            · skip
              refine z_iincN (pc := 54) (c := 1) dX6_forbids_54 rfl (by with_reducible rfl) (by decide) (by decide) rfl ?_
              try dsimp only [zst1, zst2, zk]
              refine z_goto (pc := 57) (tgt := 4) dX6_forbids_57 (by decide) ?_
              simp only [zfo] at hq
              first
                | exact ih (g + 1) _ _ (by omega) (by omega) (by rw [if_pos (by refine ⟨by omega, ?_⟩; simp only [zfb, decide_eq_true_eq]; omega)] at hq; exact hq)
                | exact ih (g + 1) _ _ (by omega) (by omega) (by rw [if_neg (by rintro ⟨q1, q2⟩; simp only [zfb, decide_eq_true_eq] at q2; omega)] at hq; exact hq)
            · skip
              refine z_iload_n (pc := 52) dX6_forbids_52 rfl rfl ?_
              refine z_istore_n (pc := 53) dX6_forbids_53 rfl (by decide) rfl ?_
              try dsimp only [zst1, zst2, zk]
              refine z_iincN (pc := 54) (c := 1) dX6_forbids_54 rfl (by with_reducible rfl) (by decide) (by decide) rfl ?_
              try dsimp only [zst1, zst2, zk]
              refine z_goto (pc := 57) (tgt := 4) dX6_forbids_57 (by decide) ?_
              simp only [zfo] at hq
              first
                | exact ih (g + 1) _ _ (by omega) (by omega) (by rw [if_pos (by refine ⟨by omega, ?_⟩; simp only [zfb, decide_eq_true_eq]; omega)] at hq; exact hq)
                | exact ih (g + 1) _ _ (by omega) (by omega) (by rw [if_neg (by rintro ⟨q1, q2⟩; simp only [zfb, decide_eq_true_eq] at q2; omega)] at hq; exact hq)
set_option maxHeartbeats 2000000 in
set_option maxRecDepth 20000 in
theorem c_X6_forbids {lay : List zL} {I : zI} {J : zJ} {s : Nat} {n : Nat → Nat} (hS : kS lay s) (hV : vS I s n) (hB : bS n) : zMet lay MX6_forbids 3 [.ref s] I J (fun r I' J' => r = .int (nI (zforb n)) ∧ I = I' ∧ J = J') := by
  refine zMet_of (t := MX6_forbids) (ls := [.ref s, .null, .null, .null]) (by decide +kernel) (Nat.le_of_ble_eq_true rfl) rfl ?_
  have hS' := hS
  have hV' := hV
  have hB' := hB
  obtain ⟨h1, h2, h3, h4⟩ := hS
  obtain ⟨v0, v1, v2, v3, v4, v5⟩ := hV
  obtain ⟨b1, b2, b3, b4, b5, b6, b7, b8⟩ := hB
  have hp8 := zpow_r b1 b2
  refine z_iconst (pc := 0) (v := nI 0) dX6_forbids_0 (by decide) ?_
  refine z_istore_n (pc := 1) dX6_forbids_1 rfl (by decide) rfl ?_
  try dsimp only [zst1, zst2, zk]
  refine z_iconst (pc := 2) (v := nI 1) dX6_forbids_2 (by decide) ?_
  refine z_istore_n (pc := 3) dX6_forbids_3 rfl (by decide) rfl ?_
  try dsimp only [zst1, zst2, zk]
  exact l_X6_forbids hS' hV' hB' _ 1 0 _ (by omega) (by omega) ⟨rfl, rfl, rfl⟩
set_option maxHeartbeats 2000000 in
set_option maxRecDepth 20000 in
theorem c_X6_isPossible {lay : List zL} {I : zI} {J : zJ} {s : Nat} {n : Nat → Nat} (hS : kS lay s) (hV : vS I s n) (hB : bS n) : zMet lay MX6_isPossible 4 [.ref s] I J (fun r I' J' => ((r = .int (nI 1) ∧ (zall n 0 = zall n 1 ∧ zforb n = 0)) ∨ (r = .int (nI 0) ∧ ¬ (zall n 0 = zall n 1 ∧ zforb n = 0))) ∧ I = I' ∧ J = J') := by
  refine zMet_of (t := MX6_isPossible) (ls := [.ref s]) (by decide +kernel) (Nat.le_of_ble_eq_true rfl) rfl ?_
  have hS' := hS
  have hV' := hV
  have hB' := hB
  obtain ⟨h1, h2, h3, h4⟩ := hS
  obtain ⟨v0, v1, v2, v3, v4, v5⟩ := hV
  obtain ⟨b1, b2, b3, b4, b5, b6, b7, b8⟩ := hB
  have ha0 := zall_le hB' (w := 0) (by omega)
  have ha1 := zall_le hB' (w := 1) (by omega)
  have hfl := zforb_lt hB'
  refine z_aload_n (pc := 0) dX6_isPossible_0 rfl rfl ?_
  refine z_iconst (pc := 1) (v := nI 0) dX6_isPossible_1 (by decide) ?_
  refine z_callV (pc := 2) (c_X6_allMargins (by assumption) (by assumption) (by assumption) (by omega)) dX6_isPossible_2 l_RX6_50 m_MX6_allMargins n_MX6_allMargins e_MX6_allMargins rfl (by omega) (by assumption) rfl rfl (Nat.le_of_ble_eq_true rfl) ?_
  rintro _ _ _ (⟨rfl, rfl, rfl⟩)
  try dsimp only [zov, Option.toList, List.cons_append, List.nil_append]
  refine z_aload_n (pc := 5) dX6_isPossible_5 rfl rfl ?_
  refine z_iconst (pc := 6) (v := nI 1) dX6_isPossible_6 (by decide) ?_
  refine z_callV (pc := 7) (c_X6_allMargins (by assumption) (by assumption) (by assumption) (by omega)) dX6_isPossible_7 l_RX6_50 m_MX6_allMargins n_MX6_allMargins e_MX6_allMargins rfl (by omega) (by assumption) rfl rfl (Nat.le_of_ble_eq_true rfl) ?_
  rintro _ _ _ (⟨rfl, rfl, rfl⟩)
  try dsimp only [zov, Option.toList, List.cons_append, List.nil_append]
  first | refine z_icmp_neN (pc := 10) (tgt := 24) (by with_reducible rfl) (by with_reducible rfl) dX6_isPossible_10 (by decide) (by omega) (by omega) (fun hb10 => ?_) (fun hb10 => ?_) | refine z_icmp_ne (pc := 10) (tgt := 24) dX6_isPossible_10 (by decide) (fun hb10 => ?_) (fun hb10 => ?_)
  · skip
    refine z_iconst (pc := 24) (v := nI 0) dX6_isPossible_24 (by decide) ?_
    refine z_zret (pc := 25) dX6_isPossible_25 rfl (by first | decide | assumption) ?_
    first | exact ⟨Or.inl ⟨rfl, by omega⟩, rfl, rfl⟩ | exact ⟨Or.inr ⟨rfl, by omega⟩, rfl, rfl⟩
  · skip
    refine z_aload_n (pc := 13) dX6_isPossible_13 rfl rfl ?_
    refine z_callV (pc := 14) (c_X6_forbids (by assumption) (by assumption) (by assumption)) dX6_isPossible_14 l_RX6_53 m_MX6_forbids n_MX6_forbids e_MX6_forbids rfl (by omega) (by assumption) rfl rfl (Nat.le_of_ble_eq_true rfl) ?_
    rintro _ _ _ (⟨rfl, rfl, rfl⟩)
    try dsimp only [zov, Option.toList, List.cons_append, List.nil_append]
    first | refine z_if_neN (pc := 17) (tgt := 24) (by with_reducible rfl) dX6_isPossible_17 (by decide) (by omega) (fun hb17 => ?_) (fun hb17 => ?_) | refine z_if_ne (pc := 17) (tgt := 24) dX6_isPossible_17 (by decide) (fun hb17 => ?_) (fun hb17 => ?_)
    · skip
      refine z_iconst (pc := 24) (v := nI 0) dX6_isPossible_24 (by decide) ?_
      refine z_zret (pc := 25) dX6_isPossible_25 rfl (by first | decide | assumption) ?_
      first | exact ⟨Or.inl ⟨rfl, by omega⟩, rfl, rfl⟩ | exact ⟨Or.inr ⟨rfl, by omega⟩, rfl, rfl⟩
    · skip
      refine z_iconst (pc := 20) (v := nI 1) dX6_isPossible_20 (by decide) ?_
      refine z_goto (pc := 21) (tgt := 25) dX6_isPossible_21 (by decide) ?_
      refine z_zret (pc := 25) dX6_isPossible_25 rfl (by first | decide | assumption) ?_
      first | exact ⟨Or.inl ⟨rfl, by omega⟩, rfl, rfl⟩ | exact ⟨Or.inr ⟨rfl, by omega⟩, rfl, rfl⟩
