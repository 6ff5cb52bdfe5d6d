/-! ===== gaps ===== -/
theorem zbm64 {z : Int} (h1 : -9223372036854775808 ≤ z) (h2 : z < 9223372036854775808) : z.bmod (2 ^ 64) = z := by
  rw [Int.bmod_def]
  split <;> omega
theorem zabs_sub {a b : Nat} (ha : a < 4611686018427387904) (hb : b < 4611686018427387904) : (if 0 < lN a - lN b then lN a - lN b else -(lN a - lN b)) = lN (if b ≤ a then a - b else b - a) := by
  by_cases h : b ≤ a
  · rw [if_pos h, lN_sub h]
    by_cases q : 0 < a - b
    · exact if_pos (show (0 : Int64) < lN (a - b) from (pk_lLT (a := 0) (by omega) (by omega)).mpr q)
    · rw [show a - b = 0 by omega]; rfl
  · rw [if_neg h]
    have e : lN a - lN b = -(lN (b - a)) := by
      rw [← lN_sub (show a ≤ b by omega)]
      exact (Int64.neg_sub).symm
    have h0 : ¬ (0 : Int64) < -(lN (b - a)) := by
      intro q
      rw [Int64.lt_iff_toInt_lt] at q
      have h3 : (lN (b - a)).toInt = ((b - a : Nat) : Int) := Int64.toInt_ofNat_of_lt (by omega)
      rw [Int64.toInt_neg, h3, zbm64 (by omega) (by omega)] at q
      simp at q
      omega
    rw [e, if_neg h0]
    exact Int64.neg_neg
theorem zgp_n {n : Nat → Nat} {w l : Nat} (h : zsm n n w l = none) : zgp n w l = none := by unfold zgp; rw [h]
theorem zgp_y {n : Nat → Nat} {w l : Nat} {q : Nat × Nat} (h : zsm n n w l = some q) : zgp n w l = some (zred (if n (25 + (3 * w + l)) * q.2 ≤ q.1 then q.1 - n (25 + (3 * w + l)) * q.2 else n (25 + (3 * w + l)) * q.2 - q.1) q.2) := by unfold zgp; rw [h]
theorem zgp_bd {n : Nat → Nat} {w l : Nat} {s : Nat × Nat} (hS : bS n) (hT : bT n) (hk : 3 * w + l < 9) (h : zgp n w l = some s) : s.1 ≤ 60000000 ∧ 1 ≤ s.2 ∧ s.2 ≤ 999999 ∧ Nat.gcd s.2 s.1 = 1 := by
  cases e : zsm n n w l with
  | none => rw [zgp_n e] at h; cases h
  | some q =>
    rw [zgp_y e] at h
    cases h
    have hq := zsm_bd hT e
    unfold zbd at hq
    have hm := hS.2.2.2.2.2.2.2 _ hk
    have hx : n (25 + (3 * w + l)) * q.2 ≤ 60 * 999999 := Nat.mul_le_mul hm hq.2.2
    have hd : (if n (25 + (3 * w + l)) * q.2 ≤ q.1 then q.1 - n (25 + (3 * w + l)) * q.2 else n (25 + (3 * w + l)) * q.2 - q.1) ≤ 60000000 := by split <;> omega
    refine ⟨Nat.le_trans (Nat.div_le_self _ _) hd, zred_pos hq.2.1, Nat.le_trans (Nat.div_le_self _ _) hq.2.2, ?_⟩
    exact Nat.coprime_div_gcd_div_gcd (Nat.gcd_pos_of_pos_left _ hq.2.1)
set_option maxHeartbeats 2000000 in
set_option maxRecDepth 20000 in
theorem c_X9_isGapFound {lay : List zL} {I : zI} {J : zJ} {S : zS} (hC : kC lay) (hV : vC I J S) {w l : Nat} (hw : w ≤ 2) (hl : l < zlines (S.n 0) (S.n 1) w) : zMet lay MX9_isGapFound 3 [.ref 0, .int (nI w), .int (nI l)] I J (fun r I' J' => ((r = .int (nI 1) ∧ ∃ q, zgp S.n w l = some q ∧ J' 54 0 = lN q.1 ∧ J' 54 1 = lN q.2) ∨ (r = .int (nI 0) ∧ zgp S.n w l = none)) ∧ I = I' ∧ ∀ x, x ≠ 54 → J' x = J x) := by
  refine zMet_of (t := MX9_isGapFound) (ls := [.ref 0, .int (nI w), .int (nI l), .null, .null]) (by decide +kernel) (Nat.le_of_ble_eq_true rfl) rfl ?_
  obtain ⟨c0, ⟨cP, cG⟩, ⟨cX, cQ, cR⟩, ⟨cS, cB, cD⟩, cf1, cf2, cf3, cU⟩ := id hC
  have p0 : lay[1]? = some (.inl (2, [4, 8, 13, 16, 19])) := cP.1
  have s0 : kS lay 2 := cP.2.1
  obtain ⟨s1, s2, s3, s4⟩ := id s0
  have t0 : kT lay 6 := cP.2.2.1
  obtain ⟨t1, t2, t3, t4, t5⟩ := id t0
  have n5 : kN lay 11 5 := cP.2.2.2.1
  have n8 : kN lay 14 8 := cP.2.2.2.2.1
  have m8 : kN lay 17 8 := cP.2.2.2.2.2
  have w0 : vS I 2 S.n := hV.1.1.1
  have w1 : vT I J 6 S.n := hV.1.1.2.1
  have w5 : vN I 11 5 (S.n 4) (fun k => S.n (52 + k) / 100) (fun k => S.n (52 + k) % 100) := hV.1.1.2.2.1
  have w8 : vN I 14 8 (S.n 5) (fun k => S.n (57 + k) / 100) (fun k => S.n (57 + k) % 100) := hV.1.1.2.2.2.1
  have x8 : vN I 17 8 (S.n 6) (fun k => S.n (65 + k) / 100) (fun k => S.n (65 + k) % 100) := hV.1.1.2.2.2.2
  obtain ⟨v0, v1, v2, v3, v4, v5⟩ := id w0
  obtain ⟨y0, y1, y2⟩ := id w1
  have hb := hV.1.2
  have hB := hb.1
  have hT := hb.2.1
  obtain ⟨b1, b2, b3, b4, b5, b6, b7, b8⟩ := id hB
  have ox := cX.1
  have oq := cQ.1
  have ow := cR.1
  have od := cD.1
  have oe := cB.1
  have of1 := cS.1
  have of2 := cS.2.1
  have ou := cU.1
  have og := cG.1
  have on5 := n5.1
  have on8 := n8.1
  have om8 := m8.1
  have ov := cR.2.1.1
  have z1 := cf1
  have z2 := cf2
  have z3 := cf3
  unfold kF at z1 z2 z3
  have hz := zlines_le (w := w) b2 b4
  refine z_aload_n (pc := 0) dX9_isGapFound_0 rfl rfl ?_
  refine z_getR (pc := 1) dX9_isGapFound_1 f_RX9_12 (by assumption) rfl ?_
  refine z_getR (pc := 4) dX9_isGapFound_4 f_RX9_102 (by assumption) rfl ?_
  refine z_aload_n (pc := 7) dX9_isGapFound_7 rfl rfl ?_
  refine z_getR (pc := 8) dX9_isGapFound_8 f_RX9_12 (by assumption) rfl ?_
  refine z_getR (pc := 11) dX9_isGapFound_11 f_RX9_83 (by assumption) rfl ?_
  refine z_iload_n (pc := 14) dX9_isGapFound_14 rfl rfl ?_
  refine z_iload_n (pc := 15) dX9_isGapFound_15 rfl rfl ?_
  refine z_aload_n (pc := 16) dX9_isGapFound_16 rfl rfl ?_
  refine z_getR (pc := 17) dX9_isGapFound_17 f_RX9_66 (by assumption) rfl ?_
  refine z_callV (pc := 20) (c_X7_isSummed s0 w0 hB t0 w1 hT cf2 (by omega) (by omega) hw (by omega)) dX9_isGapFound_20 l_RX9_199 m_MX7_isSummed n_MX7_isSummed e_MX7_isSummed rfl (by omega) (by assumption) rfl rfl (Nat.le_of_ble_eq_true rfl) ?_
  rintro _ _ _ ⟨⟨rfl, q, hq, hq0, hq1⟩ | ⟨rfl, hq⟩, rfl, hj⟩
  · have hqb := zsm_bd hT hq; have hm60 := b8 (3 * w + l) (by omega); have hmq := zmul2 (a := S.n (25 + (3 * w + l))) (b := q.2) (by omega) (by unfold zbd at hqb; omega); unfold zbd at hqb; have hmq2 : S.n (25 + (3 * w + l)) * q.2 < 1000000000000 := (by omega)
    try dsimp only [zov, Option.toList, List.cons_append, List.nil_append]
    first | refine z_if_neN (pc := 23) (tgt := 28) (by with_reducible rfl) dX9_isGapFound_23 (by decide) (by omega) (fun hb23 => ?_) (fun hb23 => absurd hb23 (by decide)) | refine z_if_ne (pc := 23) (tgt := 28) dX9_isGapFound_23 (by decide) (fun hb23 => ?_) (fun hb23 => absurd hb23 (by decide))
    · skip
      refine z_aload_n (pc := 28) dX9_isGapFound_28 rfl rfl ?_
      refine z_getR (pc := 29) dX9_isGapFound_29 f_RX9_12 (by assumption) rfl ?_
      refine z_getR (pc := 32) dX9_isGapFound_32 f_RX9_83 (by assumption) rfl ?_
      refine z_getR (pc := 35) dX9_isGapFound_35 f_RX9_115 (by assumption) rfl ?_
      refine z_iload_n (pc := 38) dX9_isGapFound_38 rfl rfl ?_
      refine z_iload_n (pc := 39) dX9_isGapFound_39 rfl rfl ?_
      refine z_callS (pc := 40) c_X9_place dX9_isGapFound_40 l_RX9_98 m_MX9_place s_MX9_place rfl (by omega) rfl (Nat.le_of_ble_eq_true rfl) ?_
      rintro _ _ _ (⟨rfl, rfl, rfl⟩)
      try dsimp only [zov, Option.toList, List.cons_append, List.nil_append]
      refine z_ialoadv (pc := 43) dX9_isGapFound_43 (by assumption) (by with_reducible rfl) (by omega) (by decide) (by first | assumption | exact v3 _ (by omega) | exact v4 _ (by omega) | exact v5 _ (by omega) | exact y0 _ (by omega) | exact y1 _ (by omega) | rfl) ?_
      first | refine z_i2lN (pc := 44) (by with_reducible rfl) dX9_isGapFound_44 (by omega) ?_ | refine z_i2l (pc := 44) dX9_isGapFound_44 rfl ?_
      refine z_aload_n (pc := 45) dX9_isGapFound_45 rfl rfl ?_
      refine z_getR (pc := 46) dX9_isGapFound_46 f_RX9_66 (by assumption) rfl ?_
      refine z_getJv (pc := 49) dX9_isGapFound_49 f_RX9_210 (by assumption) rfl (by first | assumption | exact v3 _ (by omega) | exact v4 _ (by omega) | exact v5 _ (by omega) | exact y0 _ (by omega) | exact y1 _ (by omega) | rfl) ?_
      first | refine z_lmulN (pc := 52) (by with_reducible rfl) (by with_reducible rfl) dX9_isGapFound_52 ?_ | refine z_lmul (pc := 52) dX9_isGapFound_52 ?_
      refine z_lstore_n (pc := 53) dX9_isGapFound_53 rfl (by decide) rfl ?_
      try dsimp only [zst1, zst2, zk]
      refine z_aload_n (pc := 54) dX9_isGapFound_54 rfl rfl ?_
      refine z_getR (pc := 55) dX9_isGapFound_55 f_RX9_66 (by assumption) rfl ?_
      refine z_aload_n (pc := 58) dX9_isGapFound_58 rfl rfl ?_
      refine z_getR (pc := 59) dX9_isGapFound_59 f_RX9_66 (by assumption) rfl ?_
      refine z_getJv (pc := 62) dX9_isGapFound_62 f_RX9_213 (by assumption) rfl (by first | assumption | exact v3 _ (by omega) | exact v4 _ (by omega) | exact v5 _ (by omega) | exact y0 _ (by omega) | exact y1 _ (by omega) | rfl) ?_
      refine z_lload_n (pc := 65) dX9_isGapFound_65 rfl rfl ?_
      first | refine z_lsubN (pc := 66) (by with_reducible rfl) (by with_reducible rfl) dX9_isGapFound_66 (by omega) ?_ | refine z_lsub (pc := 66) dX9_isGapFound_66 ?_
      refine z_mabs (pc := 67) dX9_isGapFound_67 l_RX9_215 (zabs_sub (by omega) (by omega)) (by omega) (Nat.le_of_ble_eq_true rfl) ?_
      refine z_aload_n (pc := 70) dX9_isGapFound_70 rfl rfl ?_
      refine z_getR (pc := 71) dX9_isGapFound_71 f_RX9_66 (by assumption) rfl ?_
      refine z_getJv (pc := 74) dX9_isGapFound_74 f_RX9_210 (by assumption) rfl (by first | assumption | exact v3 _ (by omega) | exact v4 _ (by omega) | exact v5 _ (by omega) | exact y0 _ (by omega) | exact y1 _ (by omega) | rfl) ?_
      refine z_callV (pc := 77) (c_X0_become z2 (by split <;> omega) (by omega) (by omega)) dX9_isGapFound_77 l_RX9_221 m_MX0_become n_MX0_become e_MX0_become rfl (by omega) (by assumption) rfl rfl (Nat.le_of_ble_eq_true rfl) ?_
      rintro _ _ _ (⟨rfl, rfl, rfl⟩)
      try dsimp only [zov, Option.toList, List.cons_append, List.nil_append]
      refine z_iconst (pc := 80) (v := nI 1) dX9_isGapFound_80 (by decide) ?_
      refine z_zret (pc := 81) dX9_isGapFound_81 rfl (by first | decide | assumption) ?_
      first
        | exact ⟨Or.inr ⟨rfl, zgp_n hq⟩, rfl, hj⟩
        | exact ⟨Or.inl ⟨rfl, _, zgp_y hq, zf0, zf1⟩, rfl, fun x hx => by rw [zup_o hx, zup_o hx]; exact hj x hx⟩
        | fail
  · skip
    try dsimp only [zov, Option.toList, List.cons_append, List.nil_append]
    first | refine z_if_neN (pc := 23) (tgt := 28) (by with_reducible rfl) dX9_isGapFound_23 (by decide) (by omega) (fun hb23 => absurd hb23 (by decide)) (fun hb23 => ?_) | refine z_if_ne (pc := 23) (tgt := 28) dX9_isGapFound_23 (by decide) (fun hb23 => absurd hb23 (by decide)) (fun hb23 => ?_)
    · skip
      refine z_iconst (pc := 26) (v := nI 0) dX9_isGapFound_26 (by decide) ?_
      refine z_zret (pc := 27) dX9_isGapFound_27 rfl (by first | decide | assumption) ?_
      first
        | exact ⟨Or.inr ⟨rfl, zgp_n hq⟩, rfl, hj⟩
        | exact ⟨Or.inl ⟨rfl, _, zgp_y hq, zf0, zf1⟩, rfl, fun x hx => by rw [zup_o hx, zup_o hx]; exact hj x hx⟩
        | fail
set_option maxHeartbeats 2000000 in
set_option maxRecDepth 20000 in
theorem c_X9_gap {lay : List zL} {I : zI} {J : zJ} {S : zS} (hC : kC lay) (hV : vC I J S) {w l p : Int32} : zMet lay MX9_gap 5 [.ref 0, .int w, .int l, .int p] I J (fun r I' J' => zPC I J (fgap S w l p) r I' J') := by
  refine zMet_of (t := MX9_gap) (ls := [.ref 0, .int w, .int l, .int p]) (by decide +kernel) (Nat.le_of_ble_eq_true rfl) rfl ?_
  obtain ⟨c0, ⟨cP, cG⟩, ⟨cX, cQ, cR⟩, ⟨cS, cB, cD⟩, cf1, cf2, cf3, cU⟩ := id hC
  have p0 : lay[1]? = some (.inl (2, [4, 8, 13, 16, 19])) := cP.1
  have s0 : kS lay 2 := cP.2.1
  obtain ⟨s1, s2, s3, s4⟩ := id s0
  have t0 : kT lay 6 := cP.2.2.1
  obtain ⟨t1, t2, t3, t4, t5⟩ := id t0
  have n5 : kN lay 11 5 := cP.2.2.2.1
  have n8 : kN lay 14 8 := cP.2.2.2.2.1
  have m8 : kN lay 17 8 := cP.2.2.2.2.2
  have w0 : vS I 2 S.n := hV.1.1.1
  have w1 : vT I J 6 S.n := hV.1.1.2.1
  have w5 : vN I 11 5 (S.n 4) (fun k => S.n (52 + k) / 100) (fun k => S.n (52 + k) % 100) := hV.1.1.2.2.1
  have w8 : vN I 14 8 (S.n 5) (fun k => S.n (57 + k) / 100) (fun k => S.n (57 + k) % 100) := hV.1.1.2.2.2.1
  have x8 : vN I 17 8 (S.n 6) (fun k => S.n (65 + k) / 100) (fun k => S.n (65 + k) % 100) := hV.1.1.2.2.2.2
  obtain ⟨v0, v1, v2, v3, v4, v5⟩ := id w0
  obtain ⟨y0, y1, y2⟩ := id w1
  have hb := hV.1.2
  have hB := hb.1
  have hT := hb.2.1
  obtain ⟨b1, b2, b3, b4, b5, b6, b7, b8⟩ := id hB
  have ox := cX.1
  have oq := cQ.1
  have ow := cR.1
  have od := cD.1
  have oe := cB.1
  have of1 := cS.1
  have of2 := cS.2.1
  have ou := cU.1
  have og := cG.1
  have on5 := n5.1
  have on8 := n8.1
  have om8 := m8.1
  have ov := cR.2.1.1
  have z1 := cf1
  have z2 := cf2
  have z3 := cf3
  unfold kF at z1 z2 z3
  refine z_aload_n (pc := 0) dX9_gap_0 rfl rfl ?_
  refine z_getR (pc := 1) dX9_gap_1 f_RX9_12 (by assumption) rfl ?_
  refine z_getR (pc := 4) dX9_gap_4 f_RX9_83 (by assumption) rfl ?_
  refine z_iload_n (pc := 7) dX9_gap_7 rfl rfl ?_
  refine z_iload_n (pc := 8) dX9_gap_8 rfl rfl ?_
  refine z_callV (pc := 9) (c_X6_hasLine s0 w0 hB) dX9_gap_9 l_RX9_112 m_MX6_hasLine n_MX6_hasLine e_MX6_hasLine rfl (by omega) (by assumption) rfl rfl (Nat.le_of_ble_eq_true rfl) ?_
  rintro _ _ _ ⟨⟨rfl, hc⟩ | ⟨rfl, hc⟩, rfl, rfl⟩
  · obtain ⟨a, b, rfl, rfl, ha, hbb⟩ := hc; have hz := zlines_le (w := a) b2 b4; have hk : 3 * a + b < 9 := (by omega)
    try dsimp only [zov, Option.toList, List.cons_append, List.nil_append]
    first | refine z_if_neN (pc := 12) (tgt := 19) (by with_reducible rfl) dX9_gap_12 (by decide) (by omega) (fun hb12 => ?_) (fun hb12 => absurd hb12 (by decide)) | refine z_if_ne (pc := 12) (tgt := 19) dX9_gap_12 (by decide) (fun hb12 => ?_) (fun hb12 => absurd hb12 (by decide))
    · skip
      refine z_aload_n (pc := 19) dX9_gap_19 rfl rfl ?_
      refine z_iload_n (pc := 20) dX9_gap_20 rfl rfl ?_
      refine z_iload_n (pc := 21) dX9_gap_21 rfl rfl ?_
      refine z_callV (pc := 22) (c_X9_isGapFound hC hV ha hbb) dX9_gap_22 l_RX9_207 m_MX9_isGapFound n_MX9_isGapFound e_MX9_isGapFound rfl (by omega) (by assumption) rfl rfl (Nat.le_of_ble_eq_true rfl) ?_
      rintro _ _ _ ⟨⟨rfl, q, hq, hq0, hq1⟩ | ⟨rfl, hq⟩, rfl, hj⟩
      · skip
        try dsimp only [zov, Option.toList, List.cons_append, List.nil_append]
        first | refine z_if_neN (pc := 25) (tgt := 32) (by with_reducible rfl) dX9_gap_25 (by decide) (by omega) (fun hb25 => ?_) (fun hb25 => absurd hb25 (by decide)) | refine z_if_ne (pc := 25) (tgt := 32) dX9_gap_25 (by decide) (fun hb25 => ?_) (fun hb25 => absurd hb25 (by decide))
        · skip
          refine z_aload_n (pc := 32) dX9_gap_32 rfl rfl ?_
          refine z_getR (pc := 33) dX9_gap_33 f_RX9_66 (by assumption) rfl ?_
          refine z_iload_n (pc := 36) dX9_gap_36 rfl rfl ?_
          refine z_callV (pc := 37) (c_X0_partOf z2 (by assumption) (by assumption)) dX9_gap_37 l_RX9_203 m_MX0_partOf n_MX0_partOf e_MX0_partOf rfl (by omega) (by assumption) rfl rfl (Nat.le_of_ble_eq_true rfl) ?_
          rintro _ _ _ ⟨⟨rfl, rfl⟩ | ⟨rfl, rfl⟩ | ⟨hp0, hp1, rfl⟩, rfl, rfl⟩
          · skip
            try dsimp only [zov, Option.toList, List.cons_append, List.nil_append]
            refine z_lret (pc := 40) dX9_gap_40 rfl ?_
            first
              | exact zPC_same hV (by rw [fgap, zLn_n hc]; rfl)
              | exact zPC_keep hV (zkp_r _) (zkp_1 hj (by omega)) (by rw [fgap, zLn_y b2 b4 ha hbb]; dsimp only; rw [hq]; rfl)
              | exact zPC_keep hV (zkp_r _) (zkp_1 hj (by omega)) (by rw [fgap, zLn_y b2 b4 ha hbb]; dsimp only; rw [hq]; dsimp only; rw [zpt_n hp0 hp1])
              | fail
          · skip
            try dsimp only [zov, Option.toList, List.cons_append, List.nil_append]
            refine z_lret (pc := 40) dX9_gap_40 rfl ?_
            first
              | exact zPC_same hV (by rw [fgap, zLn_n hc]; rfl)
              | exact zPC_keep hV (zkp_r _) (zkp_1 hj (by omega)) (by rw [fgap, zLn_y b2 b4 ha hbb]; dsimp only; rw [hq]; rfl)
              | exact zPC_keep hV (zkp_r _) (zkp_1 hj (by omega)) (by rw [fgap, zLn_y b2 b4 ha hbb]; dsimp only; rw [hq]; dsimp only; rw [zpt_n hp0 hp1])
              | fail
          · skip
            try dsimp only [zov, Option.toList, List.cons_append, List.nil_append]
            refine z_lret (pc := 40) dX9_gap_40 rfl ?_
            first
              | exact zPC_same hV (by rw [fgap, zLn_n hc]; rfl)
              | exact zPC_keep hV (zkp_r _) (zkp_1 hj (by omega)) (by rw [fgap, zLn_y b2 b4 ha hbb]; dsimp only; rw [hq]; rfl)
              | exact zPC_keep hV (zkp_r _) (zkp_1 hj (by omega)) (by rw [fgap, zLn_y b2 b4 ha hbb]; dsimp only; rw [hq]; dsimp only; rw [zpt_n hp0 hp1])
              | fail
      · skip
        try dsimp only [zov, Option.toList, List.cons_append, List.nil_append]
        first | refine z_if_neN (pc := 25) (tgt := 32) (by with_reducible rfl) dX9_gap_25 (by decide) (by omega) (fun hb25 => absurd hb25 (by decide)) (fun hb25 => ?_) | refine z_if_ne (pc := 25) (tgt := 32) dX9_gap_25 (by decide) (fun hb25 => absurd hb25 (by decide)) (fun hb25 => ?_)
        · skip
          refine z_ldc2 (pc := 28) (v := -9223372036854775808) dX9_gap_28 q_RX9_190 ?_
          refine z_lret (pc := 31) dX9_gap_31 rfl ?_
          first
            | exact zPC_same hV (by rw [fgap, zLn_n hc]; rfl)
            | exact zPC_keep hV (zkp_r _) (zkp_1 hj (by omega)) (by rw [fgap, zLn_y b2 b4 ha hbb]; dsimp only; rw [hq]; rfl)
            | exact zPC_keep hV (zkp_r _) (zkp_1 hj (by omega)) (by rw [fgap, zLn_y b2 b4 ha hbb]; dsimp only; rw [hq]; dsimp only; rw [zpt_n hp0 hp1])
            | fail
  · skip
    try dsimp only [zov, Option.toList, List.cons_append, List.nil_append]
    first | refine z_if_neN (pc := 12) (tgt := 19) (by with_reducible rfl) dX9_gap_12 (by decide) (by omega) (fun hb12 => absurd hb12 (by decide)) (fun hb12 => ?_) | refine z_if_ne (pc := 12) (tgt := 19) dX9_gap_12 (by decide) (fun hb12 => absurd hb12 (by decide)) (fun hb12 => ?_)
    · skip
      refine z_ldc2 (pc := 15) (v := -9223372036854775808) dX9_gap_15 q_RX9_190 ?_
      refine z_lret (pc := 18) dX9_gap_18 rfl ?_
      first
        | exact zPC_same hV (by rw [fgap, zLn_n hc]; rfl)
        | exact zPC_keep hV (zkp_r _) (zkp_1 hj (by omega)) (by rw [fgap, zLn_y b2 b4 ha hbb]; dsimp only; rw [hq]; rfl)
        | exact zPC_keep hV (zkp_r _) (zkp_1 hj (by omega)) (by rw [fgap, zLn_y b2 b4 ha hbb]; dsimp only; rw [hq]; dsimp only; rw [zpt_n hp0 hp1])
        | fail
/-- what is left of the widest gap, from a line on -/
def zwr (n : Nat → Nat) (w l : Nat) (b : Option Nat × (Nat × Nat)) : Option (Option Nat × (Nat × Nat)) := match zwl n w (zlines (n 0) (n 1) w - l) l b with
  | none => none
  | some b' => zww n (2 + n 2 - (w + 1)) (w + 1) b'
def zwb (b : Option Nat × (Nat × Nat)) (w l : Nat) (q : Nat × Nat) : Option Nat × (Nat × Nat) := if b.1 = none ∨ b.2.1 * q.2 < q.1 * b.2.2 then (some (10 * w + l), q) else b
theorem zwr_none {n : Nat → Nat} {w l : Nat} {b : Option Nat × (Nat × Nat)} (hl : l < zlines (n 0) (n 1) w) (h : zgp n w l = none) : zwr n w l b = none := by
  unfold zwr
  obtain ⟨e, he⟩ : ∃ e, zlines (n 0) (n 1) w - l = e + 1 := ⟨zlines (n 0) (n 1) w - l - 1, by omega⟩
  rw [he, zwl, h]
theorem zwr_some {n : Nat → Nat} {w l : Nat} {b : Option Nat × (Nat × Nat)} {q : Nat × Nat} (hl : l < zlines (n 0) (n 1) w) (h : zgp n w l = some q) : zwr n w l b = zwr n w (l + 1) (zwb b w l q) := by
  unfold zwr
  obtain ⟨e, he⟩ : ∃ e, zlines (n 0) (n 1) w - l = e + 1 := ⟨zlines (n 0) (n 1) w - l - 1, by omega⟩
  rw [he, zwl, h, show zlines (n 0) (n 1) w - (l + 1) = e by omega]
  rfl
theorem zwr_end {n : Nat → Nat} {w l : Nat} {b : Option Nat × (Nat × Nat)} (hl : zlines (n 0) (n 1) w ≤ l) (h : 2 + n 2 ≤ w + 1) : zwr n w l b = some b := by
  unfold zwr
  rw [show zlines (n 0) (n 1) w - l = 0 by omega, zwl, show 2 + n 2 - (w + 1) = 0 by omega]
  rfl
theorem zwr_next {n : Nat → Nat} {w l : Nat} {b : Option Nat × (Nat × Nat)} (hl : zlines (n 0) (n 1) w ≤ l) (h : w + 1 < 2 + n 2) : zwr n w l b = zwr n (w + 1) 0 b := by
  unfold zwr
  obtain ⟨e, he⟩ : ∃ e, 2 + n 2 - (w + 1) = e + 1 := ⟨2 + n 2 - (w + 1) - 1, by omega⟩
  rw [show zlines (n 0) (n 1) w - l = 0 by omega, zwl, he]
  show zww n (e + 1) (w + 1) b = _
  rw [zww, Nat.sub_zero, show 2 + n 2 - (w + 1 + 1) = e by omega]
  rfl
theorem zwide_r {n : Nat → Nat} : zwide n = zwr n 0 0 (none, (0, 1)) := by
  unfold zwide zwr
  rw [show 2 + n 2 = (1 + n 2) + 1 by omega, zww, Nat.sub_zero, show 1 + n 2 + 1 - (0 + 1) = 1 + n 2 by omega]
  rfl
/-- what is in the field, once a line is found -/
def zwI (J : zJ) (b : Option Nat × (Nat × Nat)) : Prop := b.1 ≠ none → (∃ x, b.1 = some x ∧ x ≤ 22) ∧ J 55 0 = lN b.2.1 ∧ J 55 1 = lN b.2.2 ∧ b.2.1 ≤ 60000000 ∧ 1 ≤ b.2.2 ∧ b.2.2 ≤ 999999
theorem zwI_to {J J' : zJ} {b : Option Nat × (Nat × Nat)} (h : zwI J b) (e : J' 55 = J 55) : zwI J' b := fun q => by
  have h1 := h q
  rw [e]; exact h1
theorem zwI_new {J : zJ} {w l : Nat} {q : Nat × Nat} (hw : w ≤ 2) (hl : l ≤ 2) (h1 : q.1 ≤ 60000000) (h2 : 1 ≤ q.2) (h3 : q.2 ≤ 999999) (hg : Nat.gcd q.2 q.1 = 1) : zwI (zup (zup J 55 0 (lN (q.1 / Nat.gcd q.2 q.1))) 55 1 (lN (q.2 / Nat.gcd q.2 q.1))) (some (10 * w + l), q) := fun _ => by
  rw [hg, Nat.div_one, Nat.div_one]
  exact ⟨⟨_, rfl, by omega⟩, zf0, zf1, h1, h2, h3⟩
theorem zin_1 {b : Option Nat × (Nat × Nat)} {J : zJ} (h : zwI J b) (hb : zin b.1 = -1) : b.1 = none := by
  cases e : b.1 with
  | none => rfl
  | some x =>
    obtain ⟨⟨y, e2, hy⟩, _⟩ := h (by rw [e]; exact fun q => by cases q)
    rw [e2] at hb
    have : (nI y : Int32) = -1 := hb
    have h3 := congrArg Int32.toInt this
    rw [nI_toInt (by omega)] at h3
    have h4 : (-1 : Int32).toInt = -1 := by decide
    omega
theorem zin_2 {b : Option Nat × (Nat × Nat)} (hb : ¬ zin b.1 = -1) : b.1 ≠ none := fun q => hb (by rw [q]; rfl)
theorem zin_3 {b : Option Nat × (Nat × Nat)} {J : zJ} (h : zwI J b) : zin b.1 ≠ -6 := by
  intro hb
  cases e : b.1 with
  | none => rw [e] at hb; exact absurd hb (by decide)
  | some x =>
    obtain ⟨⟨y, e2, hy⟩, _⟩ := h (by rw [e]; exact fun q => by cases q)
    rw [e2] at hb
    have : (nI y : Int32) = -6 := hb
    have h3 := congrArg Int32.toInt this
    rw [nI_toInt (by omega)] at h3
    have h4 : (-6 : Int32).toInt = -6 := by decide
    omega
set_option maxHeartbeats 2000000 in
set_option maxRecDepth 20000 in
theorem l_X9_seekWidest {lay : List zL} {Q : Value → zI → zJ → Prop} {S : zS} {d0 : Nat} {I : zI} {J0 : zJ} (hC : kC lay) : ∀ (m w l : Nat) (b : Option Nat × (Nat × Nat)) (J : zJ), 5 * (3 - w) + (4 - l) < m → w < 2 + S.n 2 → l ≤ zlines (S.n 0) (S.n 1) w → vC I J S → (∀ x, x ≠ 54 → x ≠ 55 → J x = J0 x) → zwI J b → (0 < l ∨ 0 < w → b.1 ≠ none) → (∀ b' J', zwr S.n w l b = some b' → b'.1 ≠ none → zwI J' b' → (∀ x, x ≠ 54 → x ≠ 55 → J' x = J0 x) → Q (.int (zin b'.1)) I J') → (∀ J', zwr S.n w l b = none → (∀ x, x ≠ 54 → x ≠ 55 → J' x = J0 x) → Q (.int (-6)) I J') → Z lay MX9_seekWidest (d0 + 4) 31 [.ref 0, .int (zin b.1), .int (nI (2 + S.n 2)), .int (nI w), .int (nI l)] [] I J Q := by
  intro m
  induction m with
  | zero => intro w l b J h; exact absurd h (by omega)
  | succ m ih =>
    intro w l b J hm hw hl hV hf hb0 hb1 hy hn
    obtain ⟨c0, ⟨cP, cG⟩, ⟨cX, cQ, cR⟩, ⟨cS, cB, cD⟩, cf1, cf2, cf3, cU⟩ := id hC
    have p0 : lay[1]? = some (.inl (2, [4, 8, 13, 16, 19])) := cP.1
    have s0 : kS lay 2 := cP.2.1
    obtain ⟨s1, s2, s3, s4⟩ := id s0
    have t0 : kT lay 6 := cP.2.2.1
    obtain ⟨t1, t2, t3, t4, t5⟩ := id t0
    have n5 : kN lay 11 5 := cP.2.2.2.1
    have n8 : kN lay 14 8 := cP.2.2.2.2.1
    have m8 : kN lay 17 8 := cP.2.2.2.2.2
    have w0 : vS I 2 S.n := hV.1.1.1
    have w1 : vT I J 6 S.n := hV.1.1.2.1
    have w5 : vN I 11 5 (S.n 4) (fun k => S.n (52 + k) / 100) (fun k => S.n (52 + k) % 100) := hV.1.1.2.2.1
    have w8 : vN I 14 8 (S.n 5) (fun k => S.n (57 + k) / 100) (fun k => S.n (57 + k) % 100) := hV.1.1.2.2.2.1
    have x8 : vN I 17 8 (S.n 6) (fun k => S.n (65 + k) / 100) (fun k => S.n (65 + k) % 100) := hV.1.1.2.2.2.2
    obtain ⟨v0, v1, v2, v3, v4, v5⟩ := id w0
    obtain ⟨y0, y1, y2⟩ := id w1
    have hbN := hV.1.2
    have hB := hbN.1
    have hT := hbN.2.1
    obtain ⟨b1, b2, b3, b4, b5, b6, b7, b8⟩ := id hB
    have ox := cX.1
    have oq := cQ.1
    have ow := cR.1
    have od := cD.1
    have oe := cB.1
    have of1 := cS.1
    have of2 := cS.2.1
    have ou := cU.1
    have og := cG.1
    have on5 := n5.1
    have on8 := n8.1
    have om8 := m8.1
    have ov := cR.2.1.1
    have z1 := cf1
    have z2 := cf2
    have z3 := cf3
    unfold kF at z1 z2 z3
    have hz := zlines_le (w := w) b2 b4
    have hz1 : 1 ≤ zlines (S.n 0) (S.n 1) w := by unfold zlines; split; omega; split <;> omega
    refine z_iload (pc := 31) dX9_seekWidest_31 rfl ?_
    refine z_aload_n (pc := 33) dX9_seekWidest_33 rfl rfl ?_
    refine z_getR (pc := 34) dX9_seekWidest_34 f_RX9_12 (by assumption) rfl ?_
    refine z_getR (pc := 37) dX9_seekWidest_37 f_RX9_83 (by assumption) rfl ?_
    refine z_iload_n (pc := 40) dX9_seekWidest_40 rfl rfl ?_
    refine z_callV (pc := 41) (c_X6_lines s0 w0 hB (by omega)) dX9_seekWidest_41 l_RX9_227 m_MX6_lines n_MX6_lines e_MX6_lines rfl (by omega) (by assumption) rfl rfl (Nat.le_of_ble_eq_true rfl) ?_
    rintro _ _ _ (⟨rfl, rfl, rfl⟩)
    try dsimp only [zov, Option.toList, List.cons_append, List.nil_append]
    first | refine z_icmp_geN (pc := 44) (tgt := 114) (by with_reducible rfl) (by with_reducible rfl) dX9_seekWidest_44 (by decide) (by omega) (by omega) (fun hb44 => ?_) (fun hb44 => ?_) | refine z_icmp_ge (pc := 44) (tgt := 114) dX9_seekWidest_44 (by decide) (fun hb44 => ?_) (fun hb44 => ?_)
    · skip
      first | refine z_iincN (pc := 114) (c := 1) dX9_seekWidest_114 rfl (by with_reducible rfl) (by decide) (by decide) rfl ?_ | refine z_iinc (pc := 114) dX9_seekWidest_114 rfl rfl (by decide) rfl ?_
      try dsimp only [zst1, zst2, zk]
      refine z_goto (pc := 117) (tgt := 23) dX9_seekWidest_117 (by decide) ?_
      refine z_iload_n (pc := 23) dX9_seekWidest_23 rfl rfl ?_
      refine z_iload_n (pc := 24) dX9_seekWidest_24 rfl rfl ?_
      first | refine z_icmp_geN (pc := 25) (tgt := 120) (by with_reducible rfl) (by with_reducible rfl) dX9_seekWidest_25 (by decide) (by omega) (by omega) (fun hb25 => ?_) (fun hb25 => ?_) | refine z_icmp_ge (pc := 25) (tgt := 120) dX9_seekWidest_25 (by decide) (fun hb25 => ?_) (fun hb25 => ?_)
      · skip
        refine z_iload_n (pc := 120) dX9_seekWidest_120 rfl rfl ?_
        refine z_iret (pc := 121) dX9_seekWidest_121 rfl ?_
        first
          | exact hn _ (zwr_none (by omega) hq) (fun x q1 q2 => by rw [hj x q1, hf x q1 q2])
          | exact hy b _ (zwr_end (by omega) (by omega)) (hb1 (by omega)) hb0 hf
          | fail
      · skip
        refine z_iconst (pc := 28) (v := nI 0) dX9_seekWidest_28 (by decide) ?_
        refine z_istore (pc := 29) dX9_seekWidest_29 (by decide) rfl ?_
        try dsimp only [zst1, zst2, zk]
        first
          | (have hc : b.1 = none ∨ b.2.1 * q.2 < q.1 * b.2.2 := (by first | exact Or.inl (zin_1 hb0 hb62) | exact Or.inr hmo)
             have e : zwb b w l q = (some (10 * w + l), q) := if_pos hc
             exact ih w (l + 1) (some (10 * w + l), q) _ (by omega) hw (by omega) (vC_keep (vC_keep hV (zkp_r _) (zkp_1 hj (by omega))) (zkp_r _) (fun x hx => by rw [zup_o (by omega), zup_o (by omega)])) (fun x q1 q2 => by rw [zup_o q2, zup_o q2, hj x q1, hf x q1 q2]) (zwI_new (by omega) (by omega) g1 g2 g3 g4) (fun _ h => by cases h) (fun b' J' h1 h2 h3 h4 => hy b' J' (by rw [zwr_some (by omega) hq, e]; exact h1) h2 h3 h4) (fun J' h1 h2 => hn J' (by rw [zwr_some (by omega) hq, e]; exact h1) h2))
          | (have e : zwb b w l q = b := if_neg (fun h => h.elim (fun h => zin_2 hb62 h) hmo)
             exact ih w (l + 1) b _ (by omega) hw (by omega) (vC_keep hV (zkp_r _) (zkp_1 hj (by omega))) (fun x q1 q2 => by rw [hj x q1, hf x q1 q2]) (zwI_to hb0 (hj 55 (by omega))) (fun _ => zin_2 hb62) (fun b' J' h1 h2 h3 h4 => hy b' J' (by rw [zwr_some (by omega) hq, e]; exact h1) h2 h3 h4) (fun J' h1 h2 => hn J' (by rw [zwr_some (by omega) hq, e]; exact h1) h2))
          | exact ih (w + 1) 0 b _ (by omega) (by omega) (by omega) hV hf hb0 (fun _ => hb1 (by omega)) (fun b' J' h1 h2 h3 h4 => hy b' J' (by rw [zwr_next (by omega) (by omega)]; exact h1) h2 h3 h4) (fun J' h1 h2 => hn J' (by rw [zwr_next (by omega) (by omega)]; exact h1) h2)
          | fail
    · skip
      refine z_aload_n (pc := 47) dX9_seekWidest_47 rfl rfl ?_
      refine z_iload_n (pc := 48) dX9_seekWidest_48 rfl rfl ?_
      refine z_iload (pc := 49) dX9_seekWidest_49 rfl ?_
      refine z_callV (pc := 51) (c_X9_isGapFound hC hV (by omega) (by omega)) dX9_seekWidest_51 l_RX9_207 m_MX9_isGapFound n_MX9_isGapFound e_MX9_isGapFound rfl (by omega) (by assumption) rfl rfl (Nat.le_of_ble_eq_true rfl) ?_
      rintro _ _ _ ⟨⟨rfl, q, hq, hq0, hq1⟩ | ⟨rfl, hq⟩, rfl, hj⟩
      · obtain ⟨g1, g2, g3, g4⟩ := zgp_bd hB hT (by omega) hq
        try dsimp only [zov, Option.toList, List.cons_append, List.nil_append]
        first | refine z_if_neN (pc := 54) (tgt := 60) (by with_reducible rfl) dX9_seekWidest_54 (by decide) (by omega) (fun hb54 => ?_) (fun hb54 => absurd hb54 (by decide)) | refine z_if_ne (pc := 54) (tgt := 60) dX9_seekWidest_54 (by decide) (fun hb54 => ?_) (fun hb54 => absurd hb54 (by decide))
        · skip
          refine z_iload_n (pc := 60) dX9_seekWidest_60 rfl rfl ?_
          refine z_iconst (pc := 61) (v := -1) dX9_seekWidest_61 (by decide) ?_
          refine z_icmp_eq (pc := 62) (tgt := 79) dX9_seekWidest_62 (by decide) (fun hb62 => ?_) (fun hb62 => ?_)
          · skip
            refine z_aload_n (pc := 79) dX9_seekWidest_79 rfl rfl ?_
            refine z_getR (pc := 80) dX9_seekWidest_80 f_RX9_69 (by assumption) rfl ?_
            refine z_aload_n (pc := 83) dX9_seekWidest_83 rfl rfl ?_
            refine z_getR (pc := 84) dX9_seekWidest_84 f_RX9_66 (by assumption) rfl ?_
            refine z_getJv (pc := 87) dX9_seekWidest_87 f_RX9_213 (by assumption) rfl (by first | assumption | exact v3 _ (by omega) | exact v4 _ (by omega) | exact v5 _ (by omega) | exact y0 _ (by omega) | exact y1 _ (by omega) | exact (congrFun (hj _ (by omega)) _).trans (by assumption) | rfl) ?_
            refine z_aload_n (pc := 90) dX9_seekWidest_90 rfl rfl ?_
            refine z_getR (pc := 91) dX9_seekWidest_91 f_RX9_66 (by assumption) rfl ?_
            refine z_getJv (pc := 94) dX9_seekWidest_94 f_RX9_210 (by assumption) rfl (by first | assumption | exact v3 _ (by omega) | exact v4 _ (by omega) | exact v5 _ (by omega) | exact y0 _ (by omega) | exact y1 _ (by omega) | exact (congrFun (hj _ (by omega)) _).trans (by assumption) | rfl) ?_
            refine z_callV (pc := 97) (c_X0_become z3 (by omega) (by omega) (by omega)) dX9_seekWidest_97 l_RX9_221 m_MX0_become n_MX0_become e_MX0_become rfl (by omega) (by assumption) rfl rfl (Nat.le_of_ble_eq_true rfl) ?_
            rintro _ _ _ (⟨rfl, rfl, rfl⟩)
            try dsimp only [zov, Option.toList, List.cons_append, List.nil_append]
            refine z_bipush (pc := 100) (v := nI 10) dX9_seekWidest_100 (by decide) ?_
            refine z_iload_n (pc := 102) dX9_seekWidest_102 rfl rfl ?_
            first | refine z_imulN (pc := 103) (by with_reducible rfl) (by with_reducible rfl) dX9_seekWidest_103 ?_ | refine z_imul (pc := 103) dX9_seekWidest_103 ?_
            refine z_iload (pc := 104) dX9_seekWidest_104 rfl ?_
            first | refine z_iaddN (pc := 106) (by with_reducible rfl) (by with_reducible rfl) dX9_seekWidest_106 ?_ | refine z_iadd (pc := 106) dX9_seekWidest_106 ?_
            refine z_istore_n (pc := 107) dX9_seekWidest_107 rfl (by decide) rfl ?_
            try dsimp only [zst1, zst2, zk]
            first | refine z_iincN (pc := 108) (c := 1) dX9_seekWidest_108 rfl (by with_reducible rfl) (by decide) (by decide) rfl ?_ | refine z_iinc (pc := 108) dX9_seekWidest_108 rfl rfl (by decide) rfl ?_
            try dsimp only [zst1, zst2, zk]
            refine z_goto (pc := 111) (tgt := 31) dX9_seekWidest_111 (by decide) ?_
            first
              | (have hc : b.1 = none ∨ b.2.1 * q.2 < q.1 * b.2.2 := (by first | exact Or.inl (zin_1 hb0 hb62) | exact Or.inr hmo)
                 have e : zwb b w l q = (some (10 * w + l), q) := if_pos hc
                 exact ih w (l + 1) (some (10 * w + l), q) _ (by omega) hw (by omega) (vC_keep (vC_keep hV (zkp_r _) (zkp_1 hj (by omega))) (zkp_r _) (fun x hx => by rw [zup_o (by omega), zup_o (by omega)])) (fun x q1 q2 => by rw [zup_o q2, zup_o q2, hj x q1, hf x q1 q2]) (zwI_new (by omega) (by omega) g1 g2 g3 g4) (fun _ h => by cases h) (fun b' J' h1 h2 h3 h4 => hy b' J' (by rw [zwr_some (by omega) hq, e]; exact h1) h2 h3 h4) (fun J' h1 h2 => hn J' (by rw [zwr_some (by omega) hq, e]; exact h1) h2))
              | (have e : zwb b w l q = b := if_neg (fun h => h.elim (fun h => zin_2 hb62 h) hmo)
                 exact ih w (l + 1) b _ (by omega) hw (by omega) (vC_keep hV (zkp_r _) (zkp_1 hj (by omega))) (fun x q1 q2 => by rw [hj x q1, hf x q1 q2]) (zwI_to hb0 (hj 55 (by omega))) (fun _ => zin_2 hb62) (fun b' J' h1 h2 h3 h4 => hy b' J' (by rw [zwr_some (by omega) hq, e]; exact h1) h2 h3 h4) (fun J' h1 h2 => hn J' (by rw [zwr_some (by omega) hq, e]; exact h1) h2))
              | exact ih (w + 1) 0 b _ (by omega) (by omega) (by omega) hV hf hb0 (fun _ => hb1 (by omega)) (fun b' J' h1 h2 h3 h4 => hy b' J' (by rw [zwr_next (by omega) (by omega)]; exact h1) h2 h3 h4) (fun J' h1 h2 => hn J' (by rw [zwr_next (by omega) (by omega)]; exact h1) h2)
              | fail
          · skip
            have hbw := hb0 (zin_2 hb62)
            have hp1 : q.1 * b.2.2 < 9223372036854775808 := Nat.lt_of_le_of_lt (Nat.mul_le_mul g1 hbw.2.2.2.2.2) (by decide)
            have hp2 : b.2.1 * q.2 < 9223372036854775808 := Nat.lt_of_le_of_lt (Nat.mul_le_mul hbw.2.2.2.1 g3) (by decide)
            refine z_aload_n (pc := 65) dX9_seekWidest_65 rfl rfl ?_
            refine z_getR (pc := 66) dX9_seekWidest_66 f_RX9_66 (by assumption) rfl ?_
            refine z_aload_n (pc := 69) dX9_seekWidest_69 rfl rfl ?_
            refine z_getR (pc := 70) dX9_seekWidest_70 f_RX9_69 (by assumption) rfl ?_
            refine z_callV (pc := 73) (c_X0_isMoreThan z2 z3 (by assumption) (by assumption) ((congrFun (hj 55 (by omega)) 0).trans hbw.2.1) ((congrFun (hj 55 (by omega)) 1).trans hbw.2.2.1) hp1 hp2) dX9_seekWidest_73 l_RX9_230 m_MX0_isMoreThan n_MX0_isMoreThan e_MX0_isMoreThan rfl (by omega) (by assumption) rfl rfl (Nat.le_of_ble_eq_true rfl) ?_
            rintro _ _ _ ⟨⟨rfl, hmo⟩ | ⟨rfl, hmo⟩, rfl, rfl⟩
            · skip
              try dsimp only [zov, Option.toList, List.cons_append, List.nil_append]
              first | refine z_if_eqN (pc := 76) (tgt := 108) (by with_reducible rfl) dX9_seekWidest_76 (by decide) (by omega) (fun hb76 => absurd hb76 (by decide)) (fun hb76 => ?_) | refine z_if_eq (pc := 76) (tgt := 108) dX9_seekWidest_76 (by decide) (fun hb76 => absurd hb76 (by decide)) (fun hb76 => ?_)
              · skip
                refine z_aload_n (pc := 79) dX9_seekWidest_79 rfl rfl ?_
                refine z_getR (pc := 80) dX9_seekWidest_80 f_RX9_69 (by assumption) rfl ?_
                refine z_aload_n (pc := 83) dX9_seekWidest_83 rfl rfl ?_
                refine z_getR (pc := 84) dX9_seekWidest_84 f_RX9_66 (by assumption) rfl ?_
                refine z_getJv (pc := 87) dX9_seekWidest_87 f_RX9_213 (by assumption) rfl (by first | assumption | exact v3 _ (by omega) | exact v4 _ (by omega) | exact v5 _ (by omega) | exact y0 _ (by omega) | exact y1 _ (by omega) | exact (congrFun (hj _ (by omega)) _).trans (by assumption) | rfl) ?_
                refine z_aload_n (pc := 90) dX9_seekWidest_90 rfl rfl ?_
                refine z_getR (pc := 91) dX9_seekWidest_91 f_RX9_66 (by assumption) rfl ?_
                refine z_getJv (pc := 94) dX9_seekWidest_94 f_RX9_210 (by assumption) rfl (by first | assumption | exact v3 _ (by omega) | exact v4 _ (by omega) | exact v5 _ (by omega) | exact y0 _ (by omega) | exact y1 _ (by omega) | exact (congrFun (hj _ (by omega)) _).trans (by assumption) | rfl) ?_
                refine z_callV (pc := 97) (c_X0_become z3 (by omega) (by omega) (by omega)) dX9_seekWidest_97 l_RX9_221 m_MX0_become n_MX0_become e_MX0_become rfl (by omega) (by assumption) rfl rfl (Nat.le_of_ble_eq_true rfl) ?_
                rintro _ _ _ (⟨rfl, rfl, rfl⟩)
                try dsimp only [zov, Option.toList, List.cons_append, List.nil_append]
                refine z_bipush (pc := 100) (v := nI 10) dX9_seekWidest_100 (by decide) ?_
                refine z_iload_n (pc := 102) dX9_seekWidest_102 rfl rfl ?_
                first | refine z_imulN (pc := 103) (by with_reducible rfl) (by with_reducible rfl) dX9_seekWidest_103 ?_ | refine z_imul (pc := 103) dX9_seekWidest_103 ?_
                refine z_iload (pc := 104) dX9_seekWidest_104 rfl ?_
                first | refine z_iaddN (pc := 106) (by with_reducible rfl) (by with_reducible rfl) dX9_seekWidest_106 ?_ | refine z_iadd (pc := 106) dX9_seekWidest_106 ?_
                refine z_istore_n (pc := 107) dX9_seekWidest_107 rfl (by decide) rfl ?_
                try dsimp only [zst1, zst2, zk]
                first | refine z_iincN (pc := 108) (c := 1) dX9_seekWidest_108 rfl (by with_reducible rfl) (by decide) (by decide) rfl ?_ | refine z_iinc (pc := 108) dX9_seekWidest_108 rfl rfl (by decide) rfl ?_
                try dsimp only [zst1, zst2, zk]
                refine z_goto (pc := 111) (tgt := 31) dX9_seekWidest_111 (by decide) ?_
                first
                  | (have hc : b.1 = none ∨ b.2.1 * q.2 < q.1 * b.2.2 := (by first | exact Or.inl (zin_1 hb0 hb62) | exact Or.inr hmo)
                     have e : zwb b w l q = (some (10 * w + l), q) := if_pos hc
                     exact ih w (l + 1) (some (10 * w + l), q) _ (by omega) hw (by omega) (vC_keep (vC_keep hV (zkp_r _) (zkp_1 hj (by omega))) (zkp_r _) (fun x hx => by rw [zup_o (by omega), zup_o (by omega)])) (fun x q1 q2 => by rw [zup_o q2, zup_o q2, hj x q1, hf x q1 q2]) (zwI_new (by omega) (by omega) g1 g2 g3 g4) (fun _ h => by cases h) (fun b' J' h1 h2 h3 h4 => hy b' J' (by rw [zwr_some (by omega) hq, e]; exact h1) h2 h3 h4) (fun J' h1 h2 => hn J' (by rw [zwr_some (by omega) hq, e]; exact h1) h2))
                  | (have e : zwb b w l q = b := if_neg (fun h => h.elim (fun h => zin_2 hb62 h) hmo)
                     exact ih w (l + 1) b _ (by omega) hw (by omega) (vC_keep hV (zkp_r _) (zkp_1 hj (by omega))) (fun x q1 q2 => by rw [hj x q1, hf x q1 q2]) (zwI_to hb0 (hj 55 (by omega))) (fun _ => zin_2 hb62) (fun b' J' h1 h2 h3 h4 => hy b' J' (by rw [zwr_some (by omega) hq, e]; exact h1) h2 h3 h4) (fun J' h1 h2 => hn J' (by rw [zwr_some (by omega) hq, e]; exact h1) h2))
                  | exact ih (w + 1) 0 b _ (by omega) (by omega) (by omega) hV hf hb0 (fun _ => hb1 (by omega)) (fun b' J' h1 h2 h3 h4 => hy b' J' (by rw [zwr_next (by omega) (by omega)]; exact h1) h2 h3 h4) (fun J' h1 h2 => hn J' (by rw [zwr_next (by omega) (by omega)]; exact h1) h2)
                  | fail
            · skip
              try dsimp only [zov, Option.toList, List.cons_append, List.nil_append]
              first | refine z_if_eqN (pc := 76) (tgt := 108) (by with_reducible rfl) dX9_seekWidest_76 (by decide) (by omega) (fun hb76 => ?_) (fun hb76 => absurd hb76 (by decide)) | refine z_if_eq (pc := 76) (tgt := 108) dX9_seekWidest_76 (by decide) (fun hb76 => ?_) (fun hb76 => absurd hb76 (by decide))
              · skip
                first | refine z_iincN (pc := 108) (c := 1) dX9_seekWidest_108 rfl (by with_reducible rfl) (by decide) (by decide) rfl ?_ | refine z_iinc (pc := 108) dX9_seekWidest_108 rfl rfl (by decide) rfl ?_
                try dsimp only [zst1, zst2, zk]
                refine z_goto (pc := 111) (tgt := 31) dX9_seekWidest_111 (by decide) ?_
                first
                  | (have hc : b.1 = none ∨ b.2.1 * q.2 < q.1 * b.2.2 := (by first | exact Or.inl (zin_1 hb0 hb62) | exact Or.inr hmo)
                     have e : zwb b w l q = (some (10 * w + l), q) := if_pos hc
                     exact ih w (l + 1) (some (10 * w + l), q) _ (by omega) hw (by omega) (vC_keep (vC_keep hV (zkp_r _) (zkp_1 hj (by omega))) (zkp_r _) (fun x hx => by rw [zup_o (by omega), zup_o (by omega)])) (fun x q1 q2 => by rw [zup_o q2, zup_o q2, hj x q1, hf x q1 q2]) (zwI_new (by omega) (by omega) g1 g2 g3 g4) (fun _ h => by cases h) (fun b' J' h1 h2 h3 h4 => hy b' J' (by rw [zwr_some (by omega) hq, e]; exact h1) h2 h3 h4) (fun J' h1 h2 => hn J' (by rw [zwr_some (by omega) hq, e]; exact h1) h2))
                  | (have e : zwb b w l q = b := if_neg (fun h => h.elim (fun h => zin_2 hb62 h) hmo)
                     exact ih w (l + 1) b _ (by omega) hw (by omega) (vC_keep hV (zkp_r _) (zkp_1 hj (by omega))) (fun x q1 q2 => by rw [hj x q1, hf x q1 q2]) (zwI_to hb0 (hj 55 (by omega))) (fun _ => zin_2 hb62) (fun b' J' h1 h2 h3 h4 => hy b' J' (by rw [zwr_some (by omega) hq, e]; exact h1) h2 h3 h4) (fun J' h1 h2 => hn J' (by rw [zwr_some (by omega) hq, e]; exact h1) h2))
                  | exact ih (w + 1) 0 b _ (by omega) (by omega) (by omega) hV hf hb0 (fun _ => hb1 (by omega)) (fun b' J' h1 h2 h3 h4 => hy b' J' (by rw [zwr_next (by omega) (by omega)]; exact h1) h2 h3 h4) (fun J' h1 h2 => hn J' (by rw [zwr_next (by omega) (by omega)]; exact h1) h2)
                  | fail
      · skip
        try dsimp only [zov, Option.toList, List.cons_append, List.nil_append]
        first | refine z_if_neN (pc := 54) (tgt := 60) (by with_reducible rfl) dX9_seekWidest_54 (by decide) (by omega) (fun hb54 => absurd hb54 (by decide)) (fun hb54 => ?_) | refine z_if_ne (pc := 54) (tgt := 60) dX9_seekWidest_54 (by decide) (fun hb54 => absurd hb54 (by decide)) (fun hb54 => ?_)
        · skip
          refine z_bipush (pc := 57) (v := -6) dX9_seekWidest_57 (by decide) ?_
          refine z_iret (pc := 59) dX9_seekWidest_59 rfl ?_
          first
            | exact hn _ (zwr_none (by omega) hq) (fun x q1 q2 => by rw [hj x q1, hf x q1 q2])
            | exact hy b _ (zwr_end (by omega) (by omega)) (hb1 (by omega)) hb0 hf
            | fail
set_option maxHeartbeats 2000000 in
set_option maxRecDepth 20000 in
theorem c_X9_seekWidest {lay : List zL} {I : zI} {J : zJ} {S : zS} (hC : kC lay) (hV : vC I J S) : zMet lay MX9_seekWidest 4 [.ref 0] I J (fun r I' J' => ((∃ b, zwide S.n = some b ∧ b.1 ≠ none ∧ r = .int (zin b.1) ∧ zwI J' b) ∨ (zwide S.n = none ∧ r = .int (-6))) ∧ I = I' ∧ ∀ x, x ≠ 54 → x ≠ 55 → J' x = J x) := by
  refine zMet_of (t := MX9_seekWidest) (ls := [.ref 0, .null, .null, .null, .null]) (by decide +kernel) (Nat.le_of_ble_eq_true rfl) rfl ?_
  obtain ⟨c0, ⟨cP, cG⟩, ⟨cX, cQ, cR⟩, ⟨cS, cB, cD⟩, cf1, cf2, cf3, cU⟩ := id hC
  have p0 : lay[1]? = some (.inl (2, [4, 8, 13, 16, 19])) := cP.1
  have s0 : kS lay 2 := cP.2.1
  obtain ⟨s1, s2, s3, s4⟩ := id s0
  have t0 : kT lay 6 := cP.2.2.1
  obtain ⟨t1, t2, t3, t4, t5⟩ := id t0
  have n5 : kN lay 11 5 := cP.2.2.2.1
  have n8 : kN lay 14 8 := cP.2.2.2.2.1
  have m8 : kN lay 17 8 := cP.2.2.2.2.2
  have w0 : vS I 2 S.n := hV.1.1.1
  have w1 : vT I J 6 S.n := hV.1.1.2.1
  have w5 : vN I 11 5 (S.n 4) (fun k => S.n (52 + k) / 100) (fun k => S.n (52 + k) % 100) := hV.1.1.2.2.1
  have w8 : vN I 14 8 (S.n 5) (fun k => S.n (57 + k) / 100) (fun k => S.n (57 + k) % 100) := hV.1.1.2.2.2.1
  have x8 : vN I 17 8 (S.n 6) (fun k => S.n (65 + k) / 100) (fun k => S.n (65 + k) % 100) := hV.1.1.2.2.2.2
  obtain ⟨v0, v1, v2, v3, v4, v5⟩ := id w0
  obtain ⟨y0, y1, y2⟩ := id w1
  have hb := hV.1.2
  have hB := hb.1
  have hT := hb.2.1
  obtain ⟨b1, b2, b3, b4, b5, b6, b7, b8⟩ := id hB
  have ox := cX.1
  have oq := cQ.1
  have ow := cR.1
  have od := cD.1
  have oe := cB.1
  have of1 := cS.1
  have of2 := cS.2.1
  have ou := cU.1
  have og := cG.1
  have on5 := n5.1
  have on8 := n8.1
  have om8 := m8.1
  have ov := cR.2.1.1
  have z1 := cf1
  have z2 := cf2
  have z3 := cf3
  unfold kF at z1 z2 z3
  refine z_iconst (pc := 0) (v := -1) dX9_seekWidest_0 (by decide) ?_
  refine z_istore_n (pc := 1) dX9_seekWidest_1 rfl (by decide) rfl ?_
  try dsimp only [zst1, zst2, zk]
  refine z_aload_n (pc := 2) dX9_seekWidest_2 rfl rfl ?_
  refine z_getR (pc := 3) dX9_seekWidest_3 f_RX9_12 (by assumption) rfl ?_
  refine z_getR (pc := 6) dX9_seekWidest_6 f_RX9_83 (by assumption) rfl ?_
  refine z_getIv (pc := 9) dX9_seekWidest_9 f_RX9_118 (by assumption) rfl (by first | assumption | exact v3 _ (by omega) | exact v4 _ (by omega) | exact v5 _ (by omega) | exact y0 _ (by omega) | exact y1 _ (by omega) | rfl) ?_
  first | refine z_if_eqN (pc := 12) (tgt := 19) (by with_reducible rfl) dX9_seekWidest_12 (by decide) (by omega) (fun hb12 => ?_) (fun hb12 => ?_) | refine z_if_eq (pc := 12) (tgt := 19) dX9_seekWidest_12 (by decide) (fun hb12 => ?_) (fun hb12 => ?_)
  · skip
    refine z_iconst (pc := 19) (v := nI 2) dX9_seekWidest_19 (by decide) ?_
    refine z_istore_n (pc := 20) dX9_seekWidest_20 rfl (by decide) rfl ?_
    try dsimp only [zst1, zst2, zk]
    refine z_iconst (pc := 21) (v := nI 0) dX9_seekWidest_21 (by decide) ?_
    refine z_istore_n (pc := 22) dX9_seekWidest_22 rfl (by decide) rfl ?_
    try dsimp only [zst1, zst2, zk]
    refine z_iload_n (pc := 23) dX9_seekWidest_23 rfl rfl ?_
    refine z_iload_n (pc := 24) dX9_seekWidest_24 rfl rfl ?_
    first | refine z_icmp_geN (pc := 25) (tgt := 120) (by with_reducible rfl) (by with_reducible rfl) dX9_seekWidest_25 (by decide) (by omega) (by omega) (fun hb25 => absurd hb25 (by omega)) (fun hb25 => ?_) | refine z_icmp_ge (pc := 25) (tgt := 120) dX9_seekWidest_25 (by decide) (fun hb25 => absurd hb25 (by omega)) (fun hb25 => ?_)
    · skip
      refine z_iconst (pc := 28) (v := nI 0) dX9_seekWidest_28 (by decide) ?_
      refine z_istore (pc := 29) dX9_seekWidest_29 (by decide) rfl ?_
      try dsimp only [zst1, zst2, zk]
      have e2 : _ = nI (2 + S.n 2) := (by first | exact congrArg nI (show 3 = 2 + S.n 2 by omega) | exact congrArg nI (show 2 = 2 + S.n 2 by omega))
      first
      | exact l_X9_seekWidest hC 100 0 0 (none, (0, 1)) J (by omega) (by omega) (by omega) hV (fun _ _ _ => rfl) (fun h => absurd rfl h) (fun h => absurd h (by omega)) (fun b J1 h1 h2 h3 h4 => ⟨Or.inl ⟨b, zwide_r.trans h1, h2, rfl, h3⟩, rfl, h4⟩) (fun J1 h1 h2 => ⟨Or.inr ⟨zwide_r.trans h1, rfl⟩, rfl, h2⟩)
      | (rw [e2]; exact l_X9_seekWidest hC 100 0 0 (none, (0, 1)) J (by omega) (by omega) (by omega) hV (fun _ _ _ => rfl) (fun h => absurd rfl h) (fun h => absurd h (by omega)) (fun b J1 h1 h2 h3 h4 => ⟨Or.inl ⟨b, zwide_r.trans h1, h2, rfl, h3⟩, rfl, h4⟩) (fun J1 h1 h2 => ⟨Or.inr ⟨zwide_r.trans h1, rfl⟩, rfl, h2⟩))
  · skip
    refine z_iconst (pc := 15) (v := nI 3) dX9_seekWidest_15 (by decide) ?_
    refine z_goto (pc := 16) (tgt := 20) dX9_seekWidest_16 (by decide) ?_
    refine z_istore_n (pc := 20) dX9_seekWidest_20 rfl (by decide) rfl ?_
    try dsimp only [zst1, zst2, zk]
    refine z_iconst (pc := 21) (v := nI 0) dX9_seekWidest_21 (by decide) ?_
    refine z_istore_n (pc := 22) dX9_seekWidest_22 rfl (by decide) rfl ?_
    try dsimp only [zst1, zst2, zk]
    refine z_iload_n (pc := 23) dX9_seekWidest_23 rfl rfl ?_
    refine z_iload_n (pc := 24) dX9_seekWidest_24 rfl rfl ?_
    first | refine z_icmp_geN (pc := 25) (tgt := 120) (by with_reducible rfl) (by with_reducible rfl) dX9_seekWidest_25 (by decide) (by omega) (by omega) (fun hb25 => absurd hb25 (by omega)) (fun hb25 => ?_) | refine z_icmp_ge (pc := 25) (tgt := 120) dX9_seekWidest_25 (by decide) (fun hb25 => absurd hb25 (by omega)) (fun hb25 => ?_)
    · skip
      refine z_iconst (pc := 28) (v := nI 0) dX9_seekWidest_28 (by decide) ?_
      refine z_istore (pc := 29) dX9_seekWidest_29 (by decide) rfl ?_
      try dsimp only [zst1, zst2, zk]
      have e2 : _ = nI (2 + S.n 2) := (by first | exact congrArg nI (show 3 = 2 + S.n 2 by omega) | exact congrArg nI (show 2 = 2 + S.n 2 by omega))
      first
      | exact l_X9_seekWidest hC 100 0 0 (none, (0, 1)) J (by omega) (by omega) (by omega) hV (fun _ _ _ => rfl) (fun h => absurd rfl h) (fun h => absurd h (by omega)) (fun b J1 h1 h2 h3 h4 => ⟨Or.inl ⟨b, zwide_r.trans h1, h2, rfl, h3⟩, rfl, h4⟩) (fun J1 h1 h2 => ⟨Or.inr ⟨zwide_r.trans h1, rfl⟩, rfl, h2⟩)
      | (rw [e2]; exact l_X9_seekWidest hC 100 0 0 (none, (0, 1)) J (by omega) (by omega) (by omega) hV (fun _ _ _ => rfl) (fun h => absurd rfl h) (fun h => absurd h (by omega)) (fun b J1 h1 h2 h3 h4 => ⟨Or.inl ⟨b, zwide_r.trans h1, h2, rfl, h3⟩, rfl, h4⟩) (fun J1 h1 h2 => ⟨Or.inr ⟨zwide_r.trans h1, rfl⟩, rfl, h2⟩))
set_option maxHeartbeats 2000000 in
set_option maxRecDepth 20000 in
theorem c_X9_farthest {lay : List zL} {I : zI} {J : zJ} {S : zS} (hC : kC lay) (hV : vC I J S) : zMet lay MX9_farthest 5 [.ref 0] I J (fun r I' J' => zPC I J (ffar S) r I' J') := by
  refine zMet_of (t := MX9_farthest) (ls := [.ref 0]) (by decide +kernel) (Nat.le_of_ble_eq_true rfl) rfl ?_
  have c0 := hC.1
  refine z_aload_n (pc := 0) dX9_farthest_0 rfl rfl ?_
  refine z_callV (pc := 1) (c_X9_seekWidest hC hV) dX9_farthest_1 l_RX9_224 m_MX9_seekWidest n_MX9_seekWidest e_MX9_seekWidest rfl (by omega) (by assumption) rfl rfl (Nat.le_of_ble_eq_true rfl) ?_
  rintro _ _ _ ⟨⟨b, hbw, hbn, rfl, hbi⟩ | ⟨hbw, rfl⟩, rfl, hj⟩
  · obtain ⟨⟨bx, be, bl⟩, bj0, bj1, bl1, bl2, bl3⟩ := hbi hbn
    try dsimp only [zov, Option.toList, List.cons_append, List.nil_append]
    refine z_iret (pc := 4) dX9_farthest_4 rfl ?_
    first
      | exact zPC_keep hV (zkp_r _) (fun x hx => hj x (by omega) (by omega)) (by rw [ffar, hbw])
      | fail
  · skip
    try dsimp only [zov, Option.toList, List.cons_append, List.nil_append]
    refine z_iret (pc := 4) dX9_farthest_4 rfl ?_
    first
      | exact zPC_keep hV (zkp_r _) (fun x hx => hj x (by omega) (by omega)) (by rw [ffar, hbw])
      | fail
theorem ftold_0 {S : zS}  : ftold S (nI 0) = (.int (nI (S.n 0)), S) := by
  unfold ftold
  rw [if_pos rfl]
theorem ftold_1 {S : zS}  : ftold S (nI 1) = (.int (nI (S.n 1)), S) := by
  unfold ftold
  rw [if_neg (by decide), if_pos rfl]
theorem ftold_2 {S : zS}  : ftold S (nI 2) = (.int (nI (S.n 2)), S) := by
  unfold ftold
  rw [if_neg (by decide), if_neg (by decide), if_pos rfl]
theorem ftold_3 {S : zS}  : ftold S (nI 3) = (.int (nI (S.n 3)), S) := by
  unfold ftold
  rw [if_neg (by decide), if_neg (by decide), if_neg (by decide), if_pos rfl]
theorem ftold_4n {S : zS} (h : zwide S.n = none) : ftold S (nI 4) = (.int (-6), S) := by
  unfold ftold
  rw [if_neg (by decide), if_neg (by decide), if_neg (by decide), if_neg (by decide), if_pos rfl, h]
theorem ftold_4y {S : zS} {b : Option Nat × (Nat × Nat)} (h : zwide S.n = some b) (h2 : b.2.1 = 0) : ftold S (nI 4) = (.int (nI 1), S) := by
  unfold ftold
  rw [if_neg (by decide), if_neg (by decide), if_neg (by decide), if_neg (by decide), if_pos rfl, h]
  dsimp only
  rw [if_pos h2]
theorem ftold_4z {S : zS} {b : Option Nat × (Nat × Nat)} (h : zwide S.n = some b) (h2 : ¬ b.2.1 = 0) : ftold S (nI 4) = (.int (nI 0), S) := by
  unfold ftold
  rw [if_neg (by decide), if_neg (by decide), if_neg (by decide), if_neg (by decide), if_pos rfl, h]
  dsimp only
  rw [if_neg h2]
theorem ftold_5y {S : zS} (h : zall S.n 0 = zall S.n 1 ∧ zforb S.n = 0) : ftold S (nI 5) = (.int (nI 1), S) := by
  unfold ftold
  rw [if_neg (by decide), if_neg (by decide), if_neg (by decide), if_neg (by decide), if_neg (by decide), if_pos rfl, if_pos h]
theorem ftold_5n {S : zS} (h : ¬ (zall S.n 0 = zall S.n 1 ∧ zforb S.n = 0)) : ftold S (nI 5) = (.int (nI 0), S) := by
  unfold ftold
  rw [if_neg (by decide), if_neg (by decide), if_neg (by decide), if_neg (by decide), if_neg (by decide), if_pos rfl, if_neg h]
theorem ftold_6 {S : zS}  : ftold S (nI 6) = (.int (nI (zforb S.n)), S) := by
  unfold ftold
  rw [if_neg (by decide), if_neg (by decide), if_neg (by decide), if_neg (by decide), if_neg (by decide), if_neg (by decide), if_pos rfl]
theorem ftold_7 {S : zS}  : ftold S (nI 7) = (.int (nI (zlsum (fun k => S.n (7 + k)) (zl (S.n 0) (S.n 1) 0))), S) := by
  unfold ftold
  rw [if_neg (by decide), if_neg (by decide), if_neg (by decide), if_neg (by decide), if_neg (by decide), if_neg (by decide), if_neg (by decide), if_pos rfl]
theorem ftold_8 {S : zS} {w : Int32} (h0 : ¬ w = nI 0) (h1 : ¬ w = nI 1) (h2 : ¬ w = nI 2) (h3 : ¬ w = nI 3) (h4 : ¬ w = nI 4) (h5 : ¬ w = nI 5) (h6 : ¬ w = nI 6) (h7 : ¬ w = nI 7) : ftold S w = (.int (-1), S) := by
  unfold ftold
  rw [if_neg h0, if_neg h1, if_neg h2, if_neg h3, if_neg h4, if_neg h5, if_neg h6, if_neg h7]

set_option maxHeartbeats 2000000 in
set_option maxRecDepth 20000 in
theorem c_X9_told {lay : List zL} {I : zI} {J : zJ} {S : zS} (hC : kC lay) (hV : vC I J S) {w : Int32} : zMet lay MX9_told 5 [.ref 0, .int w] I J (fun r I' J' => zPC I J (ftold S w) r I' J') := by
  refine zMet_of (t := MX9_told) (ls := [.ref 0, .int w]) (by decide +kernel) (Nat.le_of_ble_eq_true rfl) rfl ?_
  obtain ⟨c0, ⟨cP, cG⟩, ⟨cX, cQ, cR⟩, ⟨cS, cB, cD⟩, cf1, cf2, cf3, cU⟩ := id hC
  have p0 : lay[1]? = some (.inl (2, [4, 8, 13, 16, 19])) := cP.1
  have s0 : kS lay 2 := cP.2.1
  obtain ⟨s1, s2, s3, s4⟩ := id s0
  have t0 : kT lay 6 := cP.2.2.1
  obtain ⟨t1, t2, t3, t4, t5⟩ := id t0
  have n5 : kN lay 11 5 := cP.2.2.2.1
  have n8 : kN lay 14 8 := cP.2.2.2.2.1
  have m8 : kN lay 17 8 := cP.2.2.2.2.2
  have w0 : vS I 2 S.n := hV.1.1.1
  have w1 : vT I J 6 S.n := hV.1.1.2.1
  have w5 : vN I 11 5 (S.n 4) (fun k => S.n (52 + k) / 100) (fun k => S.n (52 + k) % 100) := hV.1.1.2.2.1
  have w8 : vN I 14 8 (S.n 5) (fun k => S.n (57 + k) / 100) (fun k => S.n (57 + k) % 100) := hV.1.1.2.2.2.1
  have x8 : vN I 17 8 (S.n 6) (fun k => S.n (65 + k) / 100) (fun k => S.n (65 + k) % 100) := hV.1.1.2.2.2.2
  obtain ⟨v0, v1, v2, v3, v4, v5⟩ := id w0
  obtain ⟨y0, y1, y2⟩ := id w1
  have hb := hV.1.2
  have hB := hb.1
  have hT := hb.2.1
  obtain ⟨b1, b2, b3, b4, b5, b6, b7, b8⟩ := id hB
  have ox := cX.1
  have oq := cQ.1
  have ow := cR.1
  have od := cD.1
  have oe := cB.1
  have of1 := cS.1
  have of2 := cS.2.1
  have ou := cU.1
  have og := cG.1
  have on5 := n5.1
  have on8 := n8.1
  have om8 := m8.1
  have ov := cR.2.1.1
  have z1 := cf1
  have z2 := cf2
  have z3 := cf3
  unfold kF at z1 z2 z3
  refine z_iload_n (pc := 0) dX9_told_0 rfl rfl ?_
  by_cases hsw0 : w = nI 0
  · subst hsw0
    refine z_tableIn (pc := 1) (off := 47) (tgt := 48) dX9_told_1 (by decide) (by decide) (by decide) (by decide) ?_
    refine z_aload_n (pc := 48) dX9_told_48 rfl rfl ?_
    refine z_getR (pc := 49) dX9_told_49 f_RX9_12 (by assumption) rfl ?_
    refine z_getR (pc := 52) dX9_told_52 f_RX9_83 (by assumption) rfl ?_
    refine z_getIv (pc := 55) dX9_told_55 f_RX9_234 (by assumption) rfl (by first | assumption | exact v3 _ (by omega) | exact v4 _ (by omega) | exact v5 _ (by omega) | exact y0 _ (by omega) | exact y1 _ (by omega) | rfl) ?_
    refine z_iret (pc := 58) dX9_told_58 rfl ?_
    first
      | exact zPC_same hV ftold_0
      | exact zPC_same hV ftold_1
      | exact zPC_same hV ftold_2
      | exact zPC_same hV ftold_3
      | exact absurd hb101 (zin_3 hbi)
      | exact absurd rfl hb101
      | exact zPC_keep hV (zkp_r _) (fun x hx => hj x (by omega) (by omega)) (ftold_4n hbw)
      | exact zPC_keep hV (zkp_r _) (fun x hx => hj x (by omega) (by omega)) (ftold_4y hbw (by omega))
      | exact zPC_keep hV (zkp_r _) (fun x hx => hj x (by omega) (by omega)) (ftold_4z hbw (by omega))
      | exact zPC_same hV (ftold_5y hp)
      | exact zPC_same hV (ftold_5n hp)
      | exact zPC_same hV ftold_6
      | exact zPC_same hV ftold_7
      | exact zPC_same hV (ftold_8 hsw0 hsw1 hsw2 hsw3 hsw4 hsw5 hsw6 hsw7)
      | fail
  by_cases hsw1 : w = nI 1
  · subst hsw1
    refine z_tableIn (pc := 1) (off := 58) (tgt := 59) dX9_told_1 (by decide) (by decide) (by decide) (by decide) ?_
    refine z_aload_n (pc := 59) dX9_told_59 rfl rfl ?_
    refine z_getR (pc := 60) dX9_told_60 f_RX9_12 (by assumption) rfl ?_
    refine z_getR (pc := 63) dX9_told_63 f_RX9_83 (by assumption) rfl ?_
    refine z_getIv (pc := 66) dX9_told_66 f_RX9_237 (by assumption) rfl (by first | assumption | exact v3 _ (by omega) | exact v4 _ (by omega) | exact v5 _ (by omega) | exact y0 _ (by omega) | exact y1 _ (by omega) | rfl) ?_
    refine z_iret (pc := 69) dX9_told_69 rfl ?_
    first
      | exact zPC_same hV ftold_0
      | exact zPC_same hV ftold_1
      | exact zPC_same hV ftold_2
      | exact zPC_same hV ftold_3
      | exact absurd hb101 (zin_3 hbi)
      | exact absurd rfl hb101
      | exact zPC_keep hV (zkp_r _) (fun x hx => hj x (by omega) (by omega)) (ftold_4n hbw)
      | exact zPC_keep hV (zkp_r _) (fun x hx => hj x (by omega) (by omega)) (ftold_4y hbw (by omega))
      | exact zPC_keep hV (zkp_r _) (fun x hx => hj x (by omega) (by omega)) (ftold_4z hbw (by omega))
      | exact zPC_same hV (ftold_5y hp)
      | exact zPC_same hV (ftold_5n hp)
      | exact zPC_same hV ftold_6
      | exact zPC_same hV ftold_7
      | exact zPC_same hV (ftold_8 hsw0 hsw1 hsw2 hsw3 hsw4 hsw5 hsw6 hsw7)
      | fail
  by_cases hsw2 : w = nI 2
  · subst hsw2
    refine z_tableIn (pc := 1) (off := 69) (tgt := 70) dX9_told_1 (by decide) (by decide) (by decide) (by decide) ?_
    refine z_aload_n (pc := 70) dX9_told_70 rfl rfl ?_
    refine z_getR (pc := 71) dX9_told_71 f_RX9_12 (by assumption) rfl ?_
    refine z_getR (pc := 74) dX9_told_74 f_RX9_83 (by assumption) rfl ?_
    refine z_getIv (pc := 77) dX9_told_77 f_RX9_118 (by assumption) rfl (by first | assumption | exact v3 _ (by omega) | exact v4 _ (by omega) | exact v5 _ (by omega) | exact y0 _ (by omega) | exact y1 _ (by omega) | rfl) ?_
    refine z_callS (pc := 80) (c_X9_oneIf (by omega)) dX9_told_80 l_RX9_122 m_MX9_oneIf s_MX9_oneIf rfl (by omega) rfl (Nat.le_of_ble_eq_true rfl) ?_
    rintro _ _ _ (⟨rfl, rfl, rfl⟩)
    try dsimp only [zov, Option.toList, List.cons_append, List.nil_append]
    refine z_iret (pc := 83) dX9_told_83 rfl ?_
    first
      | exact zPC_same hV ftold_0
      | exact zPC_same hV ftold_1
      | exact zPC_same hV ftold_2
      | exact zPC_same hV ftold_3
      | exact absurd hb101 (zin_3 hbi)
      | exact absurd rfl hb101
      | exact zPC_keep hV (zkp_r _) (fun x hx => hj x (by omega) (by omega)) (ftold_4n hbw)
      | exact zPC_keep hV (zkp_r _) (fun x hx => hj x (by omega) (by omega)) (ftold_4y hbw (by omega))
      | exact zPC_keep hV (zkp_r _) (fun x hx => hj x (by omega) (by omega)) (ftold_4z hbw (by omega))
      | exact zPC_same hV (ftold_5y hp)
      | exact zPC_same hV (ftold_5n hp)
      | exact zPC_same hV ftold_6
      | exact zPC_same hV ftold_7
      | exact zPC_same hV (ftold_8 hsw0 hsw1 hsw2 hsw3 hsw4 hsw5 hsw6 hsw7)
      | fail
  by_cases hsw3 : w = nI 3
  · subst hsw3
    refine z_tableIn (pc := 1) (off := 83) (tgt := 84) dX9_told_1 (by decide) (by decide) (by decide) (by decide) ?_
    refine z_aload_n (pc := 84) dX9_told_84 rfl rfl ?_
    refine z_getR (pc := 85) dX9_told_85 f_RX9_12 (by assumption) rfl ?_
    refine z_getR (pc := 88) dX9_told_88 f_RX9_102 (by assumption) rfl ?_
    refine z_getIv (pc := 91) dX9_told_91 f_RX9_171 (by assumption) rfl (by first | assumption | exact v3 _ (by omega) | exact v4 _ (by omega) | exact v5 _ (by omega) | exact y0 _ (by omega) | exact y1 _ (by omega) | rfl) ?_
    refine z_iret (pc := 94) dX9_told_94 rfl ?_
    first
      | exact zPC_same hV ftold_0
      | exact zPC_same hV ftold_1
      | exact zPC_same hV ftold_2
      | exact zPC_same hV ftold_3
      | exact absurd hb101 (zin_3 hbi)
      | exact absurd rfl hb101
      | exact zPC_keep hV (zkp_r _) (fun x hx => hj x (by omega) (by omega)) (ftold_4n hbw)
      | exact zPC_keep hV (zkp_r _) (fun x hx => hj x (by omega) (by omega)) (ftold_4y hbw (by omega))
      | exact zPC_keep hV (zkp_r _) (fun x hx => hj x (by omega) (by omega)) (ftold_4z hbw (by omega))
      | exact zPC_same hV (ftold_5y hp)
      | exact zPC_same hV (ftold_5n hp)
      | exact zPC_same hV ftold_6
      | exact zPC_same hV ftold_7
      | exact zPC_same hV (ftold_8 hsw0 hsw1 hsw2 hsw3 hsw4 hsw5 hsw6 hsw7)
      | fail
  by_cases hsw4 : w = nI 4
  · subst hsw4
    refine z_tableIn (pc := 1) (off := 94) (tgt := 95) dX9_told_1 (by decide) (by decide) (by decide) (by decide) ?_
    refine z_aload_n (pc := 95) dX9_told_95 rfl rfl ?_
    refine z_callV (pc := 96) (c_X9_seekWidest hC hV) dX9_told_96 l_RX9_224 m_MX9_seekWidest n_MX9_seekWidest e_MX9_seekWidest rfl (by omega) (by assumption) rfl rfl (Nat.le_of_ble_eq_true rfl) ?_
    rintro _ _ _ ⟨⟨b, hbw, hbn, rfl, hbi⟩ | ⟨hbw, rfl⟩, rfl, hj⟩
    · obtain ⟨⟨bx, be, bl⟩, bj0, bj1, bl1, bl2, bl3⟩ := hbi hbn
      try dsimp only [zov, Option.toList, List.cons_append, List.nil_append]
      refine z_bipush (pc := 99) (v := -6) dX9_told_99 (by decide) ?_
      refine z_icmp_ne (pc := 101) (tgt := 109) dX9_told_101 (by decide) (fun hb101 => ?_) (fun hb101 => ?_)
      · skip
        refine z_aload_n (pc := 109) dX9_told_109 rfl rfl ?_
        refine z_getR (pc := 110) dX9_told_110 f_RX9_69 (by assumption) rfl ?_
        refine z_getJv (pc := 113) dX9_told_113 f_RX9_213 (by assumption) rfl (by first | assumption | exact v3 _ (by omega) | exact v4 _ (by omega) | exact v5 _ (by omega) | exact y0 _ (by omega) | exact y1 _ (by omega) | rfl) ?_
        refine z_lconst (pc := 116) (v := lN 0) dX9_told_116 rfl ?_
        first | refine z_lc_neN (pc := 117) (tgt := 125) (by with_reducible rfl) (by with_reducible rfl) dX9_told_117 rfl dX9_told_118 (by decide) (by omega) (by omega) (fun hb117 => ?_) (fun hb117 => ?_) | refine z_lc_ne (pc := 117) (tgt := 125) dX9_told_117 rfl dX9_told_118 (by decide) (fun hb117 => ?_) (fun hb117 => ?_)
        · skip
          refine z_iconst (pc := 125) (v := nI 0) dX9_told_125 (by decide) ?_
          refine z_callS (pc := 126) (c_X9_oneIf (by omega)) dX9_told_126 l_RX9_122 m_MX9_oneIf s_MX9_oneIf rfl (by omega) rfl (Nat.le_of_ble_eq_true rfl) ?_
          rintro _ _ _ (⟨rfl, rfl, rfl⟩)
          try dsimp only [zov, Option.toList, List.cons_append, List.nil_append]
          refine z_iret (pc := 129) dX9_told_129 rfl ?_
          first
            | exact zPC_same hV ftold_0
            | exact zPC_same hV ftold_1
            | exact zPC_same hV ftold_2
            | exact zPC_same hV ftold_3
            | exact absurd hb101 (zin_3 hbi)
            | exact absurd rfl hb101
            | exact zPC_keep hV (zkp_r _) (fun x hx => hj x (by omega) (by omega)) (ftold_4n hbw)
            | exact zPC_keep hV (zkp_r _) (fun x hx => hj x (by omega) (by omega)) (ftold_4y hbw (by omega))
            | exact zPC_keep hV (zkp_r _) (fun x hx => hj x (by omega) (by omega)) (ftold_4z hbw (by omega))
            | exact zPC_same hV (ftold_5y hp)
            | exact zPC_same hV (ftold_5n hp)
            | exact zPC_same hV ftold_6
            | exact zPC_same hV ftold_7
            | exact zPC_same hV (ftold_8 hsw0 hsw1 hsw2 hsw3 hsw4 hsw5 hsw6 hsw7)
            | fail
        · skip
          refine z_iconst (pc := 121) (v := nI 1) dX9_told_121 (by decide) ?_
          refine z_goto (pc := 122) (tgt := 126) dX9_told_122 (by decide) ?_
          refine z_callS (pc := 126) (c_X9_oneIf (by omega)) dX9_told_126 l_RX9_122 m_MX9_oneIf s_MX9_oneIf rfl (by omega) rfl (Nat.le_of_ble_eq_true rfl) ?_
          rintro _ _ _ (⟨rfl, rfl, rfl⟩)
          try dsimp only [zov, Option.toList, List.cons_append, List.nil_append]
          refine z_iret (pc := 129) dX9_told_129 rfl ?_
          first
            | exact zPC_same hV ftold_0
            | exact zPC_same hV ftold_1
            | exact zPC_same hV ftold_2
            | exact zPC_same hV ftold_3
            | exact absurd hb101 (zin_3 hbi)
            | exact absurd rfl hb101
            | exact zPC_keep hV (zkp_r _) (fun x hx => hj x (by omega) (by omega)) (ftold_4n hbw)
            | exact zPC_keep hV (zkp_r _) (fun x hx => hj x (by omega) (by omega)) (ftold_4y hbw (by omega))
            | exact zPC_keep hV (zkp_r _) (fun x hx => hj x (by omega) (by omega)) (ftold_4z hbw (by omega))
            | exact zPC_same hV (ftold_5y hp)
            | exact zPC_same hV (ftold_5n hp)
            | exact zPC_same hV ftold_6
            | exact zPC_same hV ftold_7
            | exact zPC_same hV (ftold_8 hsw0 hsw1 hsw2 hsw3 hsw4 hsw5 hsw6 hsw7)
            | fail
      · skip
        refine z_bipush (pc := 104) (v := -6) dX9_told_104 (by decide) ?_
        refine z_goto (pc := 106) (tgt := 129) dX9_told_106 (by decide) ?_
        refine z_iret (pc := 129) dX9_told_129 rfl ?_
        first
          | exact zPC_same hV ftold_0
          | exact zPC_same hV ftold_1
          | exact zPC_same hV ftold_2
          | exact zPC_same hV ftold_3
          | exact absurd hb101 (zin_3 hbi)
          | exact absurd rfl hb101
          | exact zPC_keep hV (zkp_r _) (fun x hx => hj x (by omega) (by omega)) (ftold_4n hbw)
          | exact zPC_keep hV (zkp_r _) (fun x hx => hj x (by omega) (by omega)) (ftold_4y hbw (by omega))
          | exact zPC_keep hV (zkp_r _) (fun x hx => hj x (by omega) (by omega)) (ftold_4z hbw (by omega))
          | exact zPC_same hV (ftold_5y hp)
          | exact zPC_same hV (ftold_5n hp)
          | exact zPC_same hV ftold_6
          | exact zPC_same hV ftold_7
          | exact zPC_same hV (ftold_8 hsw0 hsw1 hsw2 hsw3 hsw4 hsw5 hsw6 hsw7)
          | fail
    · skip
      try dsimp only [zov, Option.toList, List.cons_append, List.nil_append]
      refine z_bipush (pc := 99) (v := -6) dX9_told_99 (by decide) ?_
      refine z_icmp_ne (pc := 101) (tgt := 109) dX9_told_101 (by decide) (fun hb101 => ?_) (fun hb101 => ?_)
      · skip
        refine z_aload_n (pc := 109) dX9_told_109 rfl rfl ?_
        refine z_getR (pc := 110) dX9_told_110 f_RX9_69 (by assumption) rfl ?_
        refine z_getJv (pc := 113) dX9_told_113 f_RX9_213 (by assumption) rfl (by first | assumption | exact v3 _ (by omega) | exact v4 _ (by omega) | exact v5 _ (by omega) | exact y0 _ (by omega) | exact y1 _ (by omega) | rfl) ?_
        refine z_lconst (pc := 116) (v := lN 0) dX9_told_116 rfl ?_
        first | refine z_lc_neN (pc := 117) (tgt := 125) (by with_reducible rfl) (by with_reducible rfl) dX9_told_117 rfl dX9_told_118 (by decide) (by omega) (by omega) (fun hb117 => ?_) (fun hb117 => ?_) | refine z_lc_ne (pc := 117) (tgt := 125) dX9_told_117 rfl dX9_told_118 (by decide) (fun hb117 => ?_) (fun hb117 => ?_)
        · skip
          refine z_iconst (pc := 125) (v := nI 0) dX9_told_125 (by decide) ?_
          refine z_callS (pc := 126) (c_X9_oneIf (by omega)) dX9_told_126 l_RX9_122 m_MX9_oneIf s_MX9_oneIf rfl (by omega) rfl (Nat.le_of_ble_eq_true rfl) ?_
          rintro _ _ _ (⟨rfl, rfl, rfl⟩)
          try dsimp only [zov, Option.toList, List.cons_append, List.nil_append]
          refine z_iret (pc := 129) dX9_told_129 rfl ?_
          first
            | exact zPC_same hV ftold_0
            | exact zPC_same hV ftold_1
            | exact zPC_same hV ftold_2
            | exact zPC_same hV ftold_3
            | exact absurd hb101 (zin_3 hbi)
            | exact absurd rfl hb101
            | exact zPC_keep hV (zkp_r _) (fun x hx => hj x (by omega) (by omega)) (ftold_4n hbw)
            | exact zPC_keep hV (zkp_r _) (fun x hx => hj x (by omega) (by omega)) (ftold_4y hbw (by omega))
            | exact zPC_keep hV (zkp_r _) (fun x hx => hj x (by omega) (by omega)) (ftold_4z hbw (by omega))
            | exact zPC_same hV (ftold_5y hp)
            | exact zPC_same hV (ftold_5n hp)
            | exact zPC_same hV ftold_6
            | exact zPC_same hV ftold_7
            | exact zPC_same hV (ftold_8 hsw0 hsw1 hsw2 hsw3 hsw4 hsw5 hsw6 hsw7)
            | fail
        · skip
          refine z_iconst (pc := 121) (v := nI 1) dX9_told_121 (by decide) ?_
          refine z_goto (pc := 122) (tgt := 126) dX9_told_122 (by decide) ?_
          refine z_callS (pc := 126) (c_X9_oneIf (by omega)) dX9_told_126 l_RX9_122 m_MX9_oneIf s_MX9_oneIf rfl (by omega) rfl (Nat.le_of_ble_eq_true rfl) ?_
          rintro _ _ _ (⟨rfl, rfl, rfl⟩)
          try dsimp only [zov, Option.toList, List.cons_append, List.nil_append]
          refine z_iret (pc := 129) dX9_told_129 rfl ?_
          first
            | exact zPC_same hV ftold_0
            | exact zPC_same hV ftold_1
            | exact zPC_same hV ftold_2
            | exact zPC_same hV ftold_3
            | exact absurd hb101 (zin_3 hbi)
            | exact absurd rfl hb101
            | exact zPC_keep hV (zkp_r _) (fun x hx => hj x (by omega) (by omega)) (ftold_4n hbw)
            | exact zPC_keep hV (zkp_r _) (fun x hx => hj x (by omega) (by omega)) (ftold_4y hbw (by omega))
            | exact zPC_keep hV (zkp_r _) (fun x hx => hj x (by omega) (by omega)) (ftold_4z hbw (by omega))
            | exact zPC_same hV (ftold_5y hp)
            | exact zPC_same hV (ftold_5n hp)
            | exact zPC_same hV ftold_6
            | exact zPC_same hV ftold_7
            | exact zPC_same hV (ftold_8 hsw0 hsw1 hsw2 hsw3 hsw4 hsw5 hsw6 hsw7)
            | fail
      · skip
        refine z_bipush (pc := 104) (v := -6) dX9_told_104 (by decide) ?_
        refine z_goto (pc := 106) (tgt := 129) dX9_told_106 (by decide) ?_
        refine z_iret (pc := 129) dX9_told_129 rfl ?_
        first
          | exact zPC_same hV ftold_0
          | exact zPC_same hV ftold_1
          | exact zPC_same hV ftold_2
          | exact zPC_same hV ftold_3
          | exact absurd hb101 (zin_3 hbi)
          | exact absurd rfl hb101
          | exact zPC_keep hV (zkp_r _) (fun x hx => hj x (by omega) (by omega)) (ftold_4n hbw)
          | exact zPC_keep hV (zkp_r _) (fun x hx => hj x (by omega) (by omega)) (ftold_4y hbw (by omega))
          | exact zPC_keep hV (zkp_r _) (fun x hx => hj x (by omega) (by omega)) (ftold_4z hbw (by omega))
          | exact zPC_same hV (ftold_5y hp)
          | exact zPC_same hV (ftold_5n hp)
          | exact zPC_same hV ftold_6
          | exact zPC_same hV ftold_7
          | exact zPC_same hV (ftold_8 hsw0 hsw1 hsw2 hsw3 hsw4 hsw5 hsw6 hsw7)
          | fail
  by_cases hsw5 : w = nI 5
  · subst hsw5
    refine z_tableIn (pc := 1) (off := 129) (tgt := 130) dX9_told_1 (by decide) (by decide) (by decide) (by decide) ?_
    refine z_aload_n (pc := 130) dX9_told_130 rfl rfl ?_
    refine z_getR (pc := 131) dX9_told_131 f_RX9_12 (by assumption) rfl ?_
    refine z_getR (pc := 134) dX9_told_134 f_RX9_83 (by assumption) rfl ?_
    refine z_callV (pc := 137) (c_X6_isPossible s0 w0 hB) dX9_told_137 l_RX9_240 m_MX6_isPossible n_MX6_isPossible e_MX6_isPossible rfl (by omega) (by assumption) rfl rfl (Nat.le_of_ble_eq_true rfl) ?_
    rintro _ _ _ ⟨⟨rfl, hp⟩ | ⟨rfl, hp⟩, rfl, rfl⟩
    · skip
      try dsimp only [zov, Option.toList, List.cons_append, List.nil_append]
      refine z_callS (pc := 140) (c_X9_oneIf (by omega)) dX9_told_140 l_RX9_122 m_MX9_oneIf s_MX9_oneIf rfl (by omega) rfl (Nat.le_of_ble_eq_true rfl) ?_
      rintro _ _ _ (⟨rfl, rfl, rfl⟩)
      try dsimp only [zov, Option.toList, List.cons_append, List.nil_append]
      refine z_iret (pc := 143) dX9_told_143 rfl ?_
      first
        | exact zPC_same hV ftold_0
        | exact zPC_same hV ftold_1
        | exact zPC_same hV ftold_2
        | exact zPC_same hV ftold_3
        | exact absurd hb101 (zin_3 hbi)
        | exact absurd rfl hb101
        | exact zPC_keep hV (zkp_r _) (fun x hx => hj x (by omega) (by omega)) (ftold_4n hbw)
        | exact zPC_keep hV (zkp_r _) (fun x hx => hj x (by omega) (by omega)) (ftold_4y hbw (by omega))
        | exact zPC_keep hV (zkp_r _) (fun x hx => hj x (by omega) (by omega)) (ftold_4z hbw (by omega))
        | exact zPC_same hV (ftold_5y hp)
        | exact zPC_same hV (ftold_5n hp)
        | exact zPC_same hV ftold_6
        | exact zPC_same hV ftold_7
        | exact zPC_same hV (ftold_8 hsw0 hsw1 hsw2 hsw3 hsw4 hsw5 hsw6 hsw7)
        | fail
    · skip
      try dsimp only [zov, Option.toList, List.cons_append, List.nil_append]
      refine z_callS (pc := 140) (c_X9_oneIf (by omega)) dX9_told_140 l_RX9_122 m_MX9_oneIf s_MX9_oneIf rfl (by omega) rfl (Nat.le_of_ble_eq_true rfl) ?_
      rintro _ _ _ (⟨rfl, rfl, rfl⟩)
      try dsimp only [zov, Option.toList, List.cons_append, List.nil_append]
      refine z_iret (pc := 143) dX9_told_143 rfl ?_
      first
        | exact zPC_same hV ftold_0
        | exact zPC_same hV ftold_1
        | exact zPC_same hV ftold_2
        | exact zPC_same hV ftold_3
        | exact absurd hb101 (zin_3 hbi)
        | exact absurd rfl hb101
        | exact zPC_keep hV (zkp_r _) (fun x hx => hj x (by omega) (by omega)) (ftold_4n hbw)
        | exact zPC_keep hV (zkp_r _) (fun x hx => hj x (by omega) (by omega)) (ftold_4y hbw (by omega))
        | exact zPC_keep hV (zkp_r _) (fun x hx => hj x (by omega) (by omega)) (ftold_4z hbw (by omega))
        | exact zPC_same hV (ftold_5y hp)
        | exact zPC_same hV (ftold_5n hp)
        | exact zPC_same hV ftold_6
        | exact zPC_same hV ftold_7
        | exact zPC_same hV (ftold_8 hsw0 hsw1 hsw2 hsw3 hsw4 hsw5 hsw6 hsw7)
        | fail
  by_cases hsw6 : w = nI 6
  · subst hsw6
    refine z_tableIn (pc := 1) (off := 143) (tgt := 144) dX9_told_1 (by decide) (by decide) (by decide) (by decide) ?_
    refine z_aload_n (pc := 144) dX9_told_144 rfl rfl ?_
    refine z_getR (pc := 145) dX9_told_145 f_RX9_12 (by assumption) rfl ?_
    refine z_getR (pc := 148) dX9_told_148 f_RX9_83 (by assumption) rfl ?_
    refine z_callV (pc := 151) (c_X6_forbids s0 w0 hB) dX9_told_151 l_RX9_244 m_MX6_forbids n_MX6_forbids e_MX6_forbids rfl (by omega) (by assumption) rfl rfl (Nat.le_of_ble_eq_true rfl) ?_
    rintro _ _ _ (⟨rfl, rfl, rfl⟩)
    try dsimp only [zov, Option.toList, List.cons_append, List.nil_append]
    refine z_iret (pc := 154) dX9_told_154 rfl ?_
    first
      | exact zPC_same hV ftold_0
      | exact zPC_same hV ftold_1
      | exact zPC_same hV ftold_2
      | exact zPC_same hV ftold_3
      | exact absurd hb101 (zin_3 hbi)
      | exact absurd rfl hb101
      | exact zPC_keep hV (zkp_r _) (fun x hx => hj x (by omega) (by omega)) (ftold_4n hbw)
      | exact zPC_keep hV (zkp_r _) (fun x hx => hj x (by omega) (by omega)) (ftold_4y hbw (by omega))
      | exact zPC_keep hV (zkp_r _) (fun x hx => hj x (by omega) (by omega)) (ftold_4z hbw (by omega))
      | exact zPC_same hV (ftold_5y hp)
      | exact zPC_same hV (ftold_5n hp)
      | exact zPC_same hV ftold_6
      | exact zPC_same hV ftold_7
      | exact zPC_same hV (ftold_8 hsw0 hsw1 hsw2 hsw3 hsw4 hsw5 hsw6 hsw7)
      | fail
  by_cases hsw7 : w = nI 7
  · subst hsw7
    refine z_tableIn (pc := 1) (off := 154) (tgt := 155) dX9_told_1 (by decide) (by decide) (by decide) (by decide) ?_
    refine z_aload_n (pc := 155) dX9_told_155 rfl rfl ?_
    refine z_getR (pc := 156) dX9_told_156 f_RX9_12 (by assumption) rfl ?_
    refine z_getR (pc := 159) dX9_told_159 f_RX9_83 (by assumption) rfl ?_
    refine z_callV (pc := 162) (c_X6_allCounts s0 w0 hB) dX9_told_162 l_RX9_247 m_MX6_allCounts n_MX6_allCounts e_MX6_allCounts rfl (by omega) (by assumption) rfl rfl (Nat.le_of_ble_eq_true rfl) ?_
    rintro _ _ _ (⟨rfl, rfl, rfl⟩)
    try dsimp only [zov, Option.toList, List.cons_append, List.nil_append]
    refine z_iret (pc := 165) dX9_told_165 rfl ?_
    first
      | exact zPC_same hV ftold_0
      | exact zPC_same hV ftold_1
      | exact zPC_same hV ftold_2
      | exact zPC_same hV ftold_3
      | exact absurd hb101 (zin_3 hbi)
      | exact absurd rfl hb101
      | exact zPC_keep hV (zkp_r _) (fun x hx => hj x (by omega) (by omega)) (ftold_4n hbw)
      | exact zPC_keep hV (zkp_r _) (fun x hx => hj x (by omega) (by omega)) (ftold_4y hbw (by omega))
      | exact zPC_keep hV (zkp_r _) (fun x hx => hj x (by omega) (by omega)) (ftold_4z hbw (by omega))
      | exact zPC_same hV (ftold_5y hp)
      | exact zPC_same hV (ftold_5n hp)
      | exact zPC_same hV ftold_6
      | exact zPC_same hV ftold_7
      | exact zPC_same hV (ftold_8 hsw0 hsw1 hsw2 hsw3 hsw4 hsw5 hsw6 hsw7)
      | fail
  · skip
    refine z_tableOut (pc := 1) (tgt := 166) dX9_told_1 (by have e0 : w.toInt ≠ 0 := fun h => hsw0 (Int32.toInt_inj.mp (h.trans (by decide))); have e1 : w.toInt ≠ 1 := fun h => hsw1 (Int32.toInt_inj.mp (h.trans (by decide))); have e2 : w.toInt ≠ 2 := fun h => hsw2 (Int32.toInt_inj.mp (h.trans (by decide))); have e3 : w.toInt ≠ 3 := fun h => hsw3 (Int32.toInt_inj.mp (h.trans (by decide))); have e4 : w.toInt ≠ 4 := fun h => hsw4 (Int32.toInt_inj.mp (h.trans (by decide))); have e5 : w.toInt ≠ 5 := fun h => hsw5 (Int32.toInt_inj.mp (h.trans (by decide))); have e6 : w.toInt ≠ 6 := fun h => hsw6 (Int32.toInt_inj.mp (h.trans (by decide))); have e7 : w.toInt ≠ 7 := fun h => hsw7 (Int32.toInt_inj.mp (h.trans (by decide))); omega) (by decide) ?_
    refine z_iconst (pc := 166) (v := -1) dX9_told_166 (by decide) ?_
    refine z_iret (pc := 167) dX9_told_167 rfl ?_
    first
      | exact zPC_same hV ftold_0
      | exact zPC_same hV ftold_1
      | exact zPC_same hV ftold_2
      | exact zPC_same hV ftold_3
      | exact absurd hb101 (zin_3 hbi)
      | exact absurd rfl hb101
      | exact zPC_keep hV (zkp_r _) (fun x hx => hj x (by omega) (by omega)) (ftold_4n hbw)
      | exact zPC_keep hV (zkp_r _) (fun x hx => hj x (by omega) (by omega)) (ftold_4y hbw (by omega))
      | exact zPC_keep hV (zkp_r _) (fun x hx => hj x (by omega) (by omega)) (ftold_4z hbw (by omega))
      | exact zPC_same hV (ftold_5y hp)
      | exact zPC_same hV (ftold_5n hp)
      | exact zPC_same hV ftold_6
      | exact zPC_same hV ftold_7
      | exact zPC_same hV (ftold_8 hsw0 hsw1 hsw2 hsw3 hsw4 hsw5 hsw6 hsw7)
      | fail
