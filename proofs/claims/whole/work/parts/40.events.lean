/-! ===== the class's calls: odds, means, events ===== -/
theorem zkp_2 {α : Type} {I : Nat → Nat → α} {a j k : Nat} {u v : α} (ha : 39 ≤ a ∧ a ≤ 66) : zkp I (zup (zup I a j u) a k v) := fun x hx => by rw [zup_o (by omega), zup_o (by omega)]
set_option maxHeartbeats 2000000 in
set_option maxRecDepth 20000 in
theorem c_X9_odds {lay : List zL} {I : zI} {J : zJ} {S : zS} (hC : kC lay) (hV : vC I J S) {i j w : Int32} : zMet lay MX9_odds 23 [.ref 0, .int i, .int j, .int w] I J (fun r I' J' => zPC I J (fodds S i j w) r I' J') := by
  refine zMet_of (t := MX9_odds) (ls := [.ref 0, .int i, .int j, .int w, .null, .null]) (by decide +kernel) (Nat.le_of_ble_eq_true rfl) rfl ?_
  obtain ⟨c0, ⟨cP, cG⟩, ⟨cX, cQ, cR⟩, ⟨cS, cB, cD⟩, cf1, cf2, cf3, cU⟩ := id hC
  have p0 : lay[1]? = some (.inl (2, [4, 8, 13, 16, 19])) := cP.1
  have s0 : kS lay 2 := cP.2.1
  obtain ⟨s1, s2, s3, s4⟩ := id s0
  have t0 : kT lay 6 := cP.2.2.1
  obtain ⟨t1, t2, t3, t4, t5⟩ := id t0
  have n5 : kN lay 11 5 := cP.2.2.2.1
  have n8 : kN lay 14 8 := cP.2.2.2.2.1
  have m8 : kN lay 17 8 := cP.2.2.2.2.2
  have w0 : vS I 2 S.n := hV.1.1.1
  have w1 : vT I J 6 S.n := hV.1.1.2.1
  have w5 : vN I 11 5 (S.n 4) (fun k => S.n (52 + k) / 100) (fun k => S.n (52 + k) % 100) := hV.1.1.2.2.1
  have w8 : vN I 14 8 (S.n 5) (fun k => S.n (57 + k) / 100) (fun k => S.n (57 + k) % 100) := hV.1.1.2.2.2.1
  have x8 : vN I 17 8 (S.n 6) (fun k => S.n (65 + k) / 100) (fun k => S.n (65 + k) % 100) := hV.1.1.2.2.2.2
  obtain ⟨v0, v1, v2, v3, v4, v5⟩ := id w0
  obtain ⟨y0, y1, y2⟩ := id w1
  have hbN := hV.1.2
  have hB := hbN.1
  have hT := hbN.2.1
  obtain ⟨b1, b2, b3, b4, b5, b6, b7, b8⟩ := id hB
  have ox := cX.1
  have oq := cQ.1
  have ow := cR.1
  have od := cD.1
  have oe := cB.1
  have of1 := cS.1
  have of2 := cS.2.1
  have ou := cU.1
  have og := cG.1
  have on5 := n5.1
  have on8 := n8.1
  have om8 := m8.1
  have ov := cR.2.1.1
  have z1 := cf1
  have z2 := cf2
  have z3 := cf3
  unfold kF at z1 z2 z3
  refine z_aload_n (pc := 0) dX9_odds_0 rfl rfl ?_
  refine z_getR (pc := 1) dX9_odds_1 f_RX9_12 (by assumption) rfl ?_
  refine z_getR (pc := 4) dX9_odds_4 f_RX9_83 (by assumption) rfl ?_
  refine z_iload_n (pc := 7) dX9_odds_7 rfl rfl ?_
  refine z_iload_n (pc := 8) dX9_odds_8 rfl rfl ?_
  refine z_callV (pc := 9) (c_X6_hasCell s0 w0 hB) dX9_odds_9 l_RX9_90 m_MX6_hasCell n_MX6_hasCell e_MX6_hasCell rfl (by omega) (by assumption) rfl rfl (Nat.le_of_ble_eq_true rfl) ?_
  rintro _ _ _ ⟨⟨rfl, hc⟩ | ⟨rfl, hc⟩, rfl, rfl⟩
  · obtain ⟨a, b, rfl, rfl, ha, hbb⟩ := hc; have hk : 3 * a + b < 9 := (by omega)
    try dsimp only [zov, Option.toList, List.cons_append, List.nil_append]
    first | refine z_if_eqN (pc := 12) (tgt := 24) (by with_reducible rfl) dX9_odds_12 (by decide) (by omega) (fun hb12 => absurd hb12 (by decide)) (fun hb12 => ?_) | refine z_if_eq (pc := 12) (tgt := 24) dX9_odds_12 (by decide) (fun hb12 => absurd hb12 (by decide)) (fun hb12 => ?_)
    · skip
      refine z_iload_n (pc := 15) dX9_odds_15 rfl rfl ?_
      first | refine z_if_ltN (pc := 16) (tgt := 24) (by with_reducible rfl) dX9_odds_16 (by decide) (by omega) (fun hb16 => ?_) (fun hb16 => ?_) | refine z_if_lt (pc := 16) (tgt := 24) dX9_odds_16 (by decide) (fun hb16 => ?_) (fun hb16 => ?_)
      · skip
        refine z_ldc2 (pc := 24) (v := -9223372036854775808) dX9_odds_24 q_RX9_190 ?_
        refine z_lret (pc := 27) dX9_odds_27 rfl ?_
        first
          | exact zPC_same hV (fodds_1 hc)
          | exact zPC_same hV (fodds_2 b2 b4 ha hbb (isR_1 (by decide) hb16))
          | exact zPC_same hV (fodds_2 b2 b4 ha hbb (isR_2 (by decide) (Int32.not_le.mp hb21)))
          | fail
      · skip
        refine z_iload_n (pc := 19) dX9_odds_19 rfl rfl ?_
        refine z_iconst (pc := 20) (v := nI 1) dX9_odds_20 (by decide) ?_
        first | refine z_icmp_leN (pc := 21) (tgt := 28) (by with_reducible rfl) (by with_reducible rfl) dX9_odds_21 (by decide) (by omega) (by omega) (fun hb21 => ?_) (fun hb21 => ?_) | refine z_icmp_le (pc := 21) (tgt := 28) dX9_odds_21 (by decide) (fun hb21 => ?_) (fun hb21 => ?_)
        · skip
          refine z_iconst (pc := 28) (v := nI 0) dX9_odds_28 (by decide) ?_
          refine z_istore (pc := 29) dX9_odds_29 (by decide) rfl ?_
          try dsimp only [zst1, zst2, zk]
          refine z_iconst (pc := 31) (v := nI 0) dX9_odds_31 (by decide) ?_
          refine z_istore (pc := 32) dX9_odds_32 (by decide) rfl ?_
          try dsimp only [zst1, zst2, zk]
          refine l_X9_odds hC ha hbb 10 0 0 I J (by omega) hV (by decide) (fun I9 J9 h1 h2 => ?_)
          have hz := zod_le (n := S.n) (k := 3 * a + b) 10 0 0
          have hzr : ∀ x, x ≤ 10 → x / Nat.gcd 10 x ≤ 10 := fun x hx => Nat.le_trans (Nat.div_le_self _ _) hx
          refine z_aload_n (pc := 82) dX9_odds_82 rfl rfl ?_
          refine z_getR (pc := 83) dX9_odds_83 f_RX9_62 (by assumption) rfl ?_
          refine z_iload (pc := 86) dX9_odds_86 rfl ?_
          first | refine z_i2lN (pc := 88) (by with_reducible rfl) dX9_odds_88 (by omega) ?_ | refine z_i2l (pc := 88) dX9_odds_88 rfl ?_
          refine z_ldc2 (pc := 89) (v := lN 10) dX9_odds_89 q_RX9_312 ?_
          refine z_callV (pc := 92) (c_X0_become z1 (by omega) (by omega) (by omega)) dX9_odds_92 l_RX9_221 m_MX0_become n_MX0_become e_MX0_become rfl (by omega) (by assumption) rfl rfl (Nat.le_of_ble_eq_true rfl) ?_
          rintro _ _ _ (⟨rfl, rfl, rfl⟩)
          have hf0 : _ = lN (zred (zod S.n (3 * a + b) 10 0 0) 10).1 := zf0 (J := J9) (f := 53) (b := lN (zred (zod S.n (3 * a + b) 10 0 0) 10).2)
          have hf1 : _ = lN (zred (zod S.n (3 * a + b) 10 0 0) 10).2 := zf1 (J := J9) (f := 53) (a := lN (zred (zod S.n (3 * a + b) 10 0 0) 10).1)
          try dsimp only [zov, Option.toList, List.cons_append, List.nil_append]
          refine z_aload_n (pc := 95) dX9_odds_95 rfl rfl ?_
          refine z_getR (pc := 96) dX9_odds_96 f_RX9_62 (by assumption) rfl ?_
          refine z_iload_n (pc := 99) dX9_odds_99 rfl rfl ?_
          refine z_callV (pc := 100) (c_X0_partOf z1 hf0 hf1) dX9_odds_100 l_RX9_203 m_MX0_partOf n_MX0_partOf e_MX0_partOf rfl (by omega) (by assumption) rfl rfl (Nat.le_of_ble_eq_true rfl) ?_
          rintro _ _ _ ⟨⟨rfl, rfl⟩ | ⟨rfl, rfl⟩ | ⟨hp0, hp1, rfl⟩, rfl, rfl⟩
          · skip
            try dsimp only [zov, Option.toList, List.cons_append, List.nil_append]
            refine z_lret (pc := 103) dX9_odds_103 rfl ?_
            first
            | exact zPC_keep hV h1 (zkp_t h2 (zkp_2 (by omega))) (fodds_3 b2 b4 ha hbb)
            | exact zPC_keep hV h1 (zkp_t h2 (zkp_2 (by omega))) (by rw [fodds_3 b2 b4 ha hbb, zpt_n hp0 hp1])
            | fail
          · skip
            try dsimp only [zov, Option.toList, List.cons_append, List.nil_append]
            refine z_lret (pc := 103) dX9_odds_103 rfl ?_
            first
            | exact zPC_keep hV h1 (zkp_t h2 (zkp_2 (by omega))) (fodds_3 b2 b4 ha hbb)
            | exact zPC_keep hV h1 (zkp_t h2 (zkp_2 (by omega))) (by rw [fodds_3 b2 b4 ha hbb, zpt_n hp0 hp1])
            | fail
          · skip
            try dsimp only [zov, Option.toList, List.cons_append, List.nil_append]
            refine z_lret (pc := 103) dX9_odds_103 rfl ?_
            first
            | exact zPC_keep hV h1 (zkp_t h2 (zkp_2 (by omega))) (fodds_3 b2 b4 ha hbb)
            | exact zPC_keep hV h1 (zkp_t h2 (zkp_2 (by omega))) (by rw [fodds_3 b2 b4 ha hbb, zpt_n hp0 hp1])
            | fail
        · skip
          refine z_ldc2 (pc := 24) (v := -9223372036854775808) dX9_odds_24 q_RX9_190 ?_
          refine z_lret (pc := 27) dX9_odds_27 rfl ?_
          first
            | exact zPC_same hV (fodds_1 hc)
            | exact zPC_same hV (fodds_2 b2 b4 ha hbb (isR_1 (by decide) hb16))
            | exact zPC_same hV (fodds_2 b2 b4 ha hbb (isR_2 (by decide) (Int32.not_le.mp hb21)))
            | fail
  · skip
    try dsimp only [zov, Option.toList, List.cons_append, List.nil_append]
    first | refine z_if_eqN (pc := 12) (tgt := 24) (by with_reducible rfl) dX9_odds_12 (by decide) (by omega) (fun hb12 => ?_) (fun hb12 => absurd hb12 (by decide)) | refine z_if_eq (pc := 12) (tgt := 24) dX9_odds_12 (by decide) (fun hb12 => ?_) (fun hb12 => absurd hb12 (by decide))
    · skip
      refine z_ldc2 (pc := 24) (v := -9223372036854775808) dX9_odds_24 q_RX9_190 ?_
      refine z_lret (pc := 27) dX9_odds_27 rfl ?_
      first
        | exact zPC_same hV (fodds_1 hc)
        | exact zPC_same hV (fodds_2 b2 b4 ha hbb (isR_1 (by decide) hb16))
        | exact zPC_same hV (fodds_2 b2 b4 ha hbb (isR_2 (by decide) (Int32.not_le.mp hb21)))
        | fail
theorem zlsum_20 {f : Nat → Nat} (h : ∀ k, k < 9 → f k ≤ 20) : ∀ l : List Nat, (∀ k ∈ l, k < 9) → zlsum f l ≤ 20 * l.length
  | [], _ => Nat.le_refl _
  | k :: l, hl => by
    have h1 := zlsum_20 h l (fun a ha => hl a (List.mem_cons_of_mem _ ha))
    have h2 := h k (hl k List.mem_cons_self)
    simp only [zlsum, List.length_cons]
    omega
theorem zlsum_180 {n : Nat → Nat} {r c : Nat} (h : bS n) : zlsum (fun k => n (7 + k)) (zl r c 0) ≤ 180 :=
  Nat.le_trans (zlsum_20 h.2.2.2.2.2.1 _ zl_lt) (Nat.mul_le_mul_left 20 (zlf_len r c 9 0))
set_option maxHeartbeats 2000000 in
set_option maxRecDepth 20000 in
theorem c_X9_mean {lay : List zL} {I : zI} {J : zJ} {S : zS} (hC : kC lay) (hV : vC I J S) {w : Int32} : zMet lay MX9_mean 3 [.ref 0, .int w] I J (fun r I' J' => zPC I J (fmean S w) r I' J') := by
  refine zMet_of (t := MX9_mean) (ls := [.ref 0, .int w]) (by decide +kernel) (Nat.le_of_ble_eq_true rfl) rfl ?_
  obtain ⟨c0, ⟨cP, cG⟩, ⟨cX, cQ, cR⟩, ⟨cS, cB, cD⟩, cf1, cf2, cf3, cU⟩ := id hC
  have p0 : lay[1]? = some (.inl (2, [4, 8, 13, 16, 19])) := cP.1
  have s0 : kS lay 2 := cP.2.1
  obtain ⟨s1, s2, s3, s4⟩ := id s0
  have t0 : kT lay 6 := cP.2.2.1
  obtain ⟨t1, t2, t3, t4, t5⟩ := id t0
  have n5 : kN lay 11 5 := cP.2.2.2.1
  have n8 : kN lay 14 8 := cP.2.2.2.2.1
  have m8 : kN lay 17 8 := cP.2.2.2.2.2
  have w0 : vS I 2 S.n := hV.1.1.1
  have w1 : vT I J 6 S.n := hV.1.1.2.1
  have w5 : vN I 11 5 (S.n 4) (fun k => S.n (52 + k) / 100) (fun k => S.n (52 + k) % 100) := hV.1.1.2.2.1
  have w8 : vN I 14 8 (S.n 5) (fun k => S.n (57 + k) / 100) (fun k => S.n (57 + k) % 100) := hV.1.1.2.2.2.1
  have x8 : vN I 17 8 (S.n 6) (fun k => S.n (65 + k) / 100) (fun k => S.n (65 + k) % 100) := hV.1.1.2.2.2.2
  obtain ⟨v0, v1, v2, v3, v4, v5⟩ := id w0
  obtain ⟨y0, y1, y2⟩ := id w1
  have hbN := hV.1.2
  have hB := hbN.1
  have hT := hbN.2.1
  obtain ⟨b1, b2, b3, b4, b5, b6, b7, b8⟩ := id hB
  have ox := cX.1
  have oq := cQ.1
  have ow := cR.1
  have od := cD.1
  have oe := cB.1
  have of1 := cS.1
  have of2 := cS.2.1
  have ou := cU.1
  have og := cG.1
  have on5 := n5.1
  have on8 := n8.1
  have om8 := m8.1
  have ov := cR.2.1.1
  have z1 := cf1
  have z2 := cf2
  have z3 := cf3
  unfold kF at z1 z2 z3
  have h180 := zlsum_180 (r := S.n 0) (c := S.n 1) hB
  have hm9 : S.n 0 * S.n 1 ≤ 9 := Nat.mul_le_mul b2 b4
  have hm1 : 1 ≤ S.n 0 * S.n 1 := Nat.mul_le_mul b1 b3
  refine z_aload_n (pc := 0) dX9_mean_0 rfl rfl ?_
  refine z_getR (pc := 1) dX9_mean_1 f_RX9_62 (by assumption) rfl ?_
  refine z_aload_n (pc := 4) dX9_mean_4 rfl rfl ?_
  refine z_getR (pc := 5) dX9_mean_5 f_RX9_12 (by assumption) rfl ?_
  refine z_getR (pc := 8) dX9_mean_8 f_RX9_83 (by assumption) rfl ?_
  refine z_callV (pc := 11) (c_X6_allCounts s0 w0 hB) dX9_mean_11 l_RX9_247 m_MX6_allCounts n_MX6_allCounts e_MX6_allCounts rfl (by omega) (by assumption) rfl rfl (Nat.le_of_ble_eq_true rfl) ?_
  rintro _ _ _ (⟨rfl, rfl, rfl⟩)
  try dsimp only [zov, Option.toList, List.cons_append, List.nil_append]
  first | refine z_i2lN (pc := 14) (by with_reducible rfl) dX9_mean_14 (by omega) ?_ | refine z_i2l (pc := 14) dX9_mean_14 rfl ?_
  refine z_aload_n (pc := 15) dX9_mean_15 rfl rfl ?_
  refine z_getR (pc := 16) dX9_mean_16 f_RX9_12 (by assumption) rfl ?_
  refine z_getR (pc := 19) dX9_mean_19 f_RX9_83 (by assumption) rfl ?_
  refine z_callV (pc := 22) (c_X6_cells s0 w0 hB) dX9_mean_22 l_RX9_86 m_MX6_cells n_MX6_cells e_MX6_cells rfl (by omega) (by assumption) rfl rfl (Nat.le_of_ble_eq_true rfl) ?_
  rintro _ _ _ (⟨rfl, rfl, rfl⟩)
  try dsimp only [zov, Option.toList, List.cons_append, List.nil_append]
  first | refine z_i2lN (pc := 25) (by with_reducible rfl) dX9_mean_25 (by omega) ?_ | refine z_i2l (pc := 25) dX9_mean_25 rfl ?_
  refine z_callV (pc := 26) (c_X0_become z1 (by omega) (by omega) (by omega)) dX9_mean_26 l_RX9_221 m_MX0_become n_MX0_become e_MX0_become rfl (by omega) (by assumption) rfl rfl (Nat.le_of_ble_eq_true rfl) ?_
  rintro _ _ _ (⟨rfl, rfl, rfl⟩)
  have hf0 : _ = lN (zred (zlsum (fun k => S.n (7 + k)) (zl (S.n 0) (S.n 1) 0)) (S.n 0 * S.n 1)).1 := zf0 (J := J) (f := 53) (b := lN (zred (zlsum (fun k => S.n (7 + k)) (zl (S.n 0) (S.n 1) 0)) (S.n 0 * S.n 1)).2)
  have hf1 : _ = lN (zred (zlsum (fun k => S.n (7 + k)) (zl (S.n 0) (S.n 1) 0)) (S.n 0 * S.n 1)).2 := zf1 (J := J) (f := 53) (a := lN (zred (zlsum (fun k => S.n (7 + k)) (zl (S.n 0) (S.n 1) 0)) (S.n 0 * S.n 1)).1)
  try dsimp only [zov, Option.toList, List.cons_append, List.nil_append]
  refine z_aload_n (pc := 29) dX9_mean_29 rfl rfl ?_
  refine z_getR (pc := 30) dX9_mean_30 f_RX9_62 (by assumption) rfl ?_
  refine z_iload_n (pc := 33) dX9_mean_33 rfl rfl ?_
  refine z_callV (pc := 34) (c_X0_partOf z1 hf0 hf1) dX9_mean_34 l_RX9_203 m_MX0_partOf n_MX0_partOf e_MX0_partOf rfl (by omega) (by assumption) rfl rfl (Nat.le_of_ble_eq_true rfl) ?_
  rintro _ _ _ ⟨⟨rfl, rfl⟩ | ⟨rfl, rfl⟩ | ⟨hp0, hp1, rfl⟩, rfl, rfl⟩
  · skip
    try dsimp only [zov, Option.toList, List.cons_append, List.nil_append]
    refine z_lret (pc := 37) dX9_mean_37 rfl ?_
    first
    | exact zPC_keep hV (zkp_r _) (zkp_2 (by omega)) rfl
    | exact zPC_keep hV (zkp_r _) (zkp_2 (by omega)) (by rw [fmean, zpt_n hp0 hp1])
    | fail
  · skip
    try dsimp only [zov, Option.toList, List.cons_append, List.nil_append]
    refine z_lret (pc := 37) dX9_mean_37 rfl ?_
    first
    | exact zPC_keep hV (zkp_r _) (zkp_2 (by omega)) rfl
    | exact zPC_keep hV (zkp_r _) (zkp_2 (by omega)) (by rw [fmean, zpt_n hp0 hp1])
    | fail
  · skip
    try dsimp only [zov, Option.toList, List.cons_append, List.nil_append]
    refine z_lret (pc := 37) dX9_mean_37 rfl ?_
    first
    | exact zPC_keep hV (zkp_r _) (zkp_2 (by omega)) rfl
    | exact zPC_keep hV (zkp_r _) (zkp_2 (by omega)) (by rw [fmean, zpt_n hp0 hp1])
    | fail
theorem zev_y {n : Nat → Nat} {a b : Nat} (h : zevok n a b) (hr : n 0 ≤ 3) (hc : n 1 ≤ 3) : zev n (nI a) (nI b) = .inr (a, b) := by
  have ha : a ≤ 3 := by unfold zevok at h; omega
  have hb : b ≤ 99 := by unfold zevok at h; omega
  unfold zev
  rw [zite_y ⟨a, b, rfl, rfl, h, hb⟩, zt_nI (by omega), zt_nI (by omega)]
theorem zev_n {n : Nat → Nat} {w v : Int32} (h : ¬ ∃ a b, w = nI a ∧ v = nI b ∧ zevok n a b ∧ b ≤ 99) (hw : ¬ w = nI 3) : zev n w v = .inl (-1) := by
  unfold zev
  rw [zite_n h, if_neg hw]
theorem zev_3 {n : Nat → Nat} {v : Int32} (h : ¬ isR 60 v) : zev n (nI 3) v = .inl (-2) := by
  unfold zev
  rw [zite_n, if_pos rfl]
  rintro ⟨a, b, e1, rfl, h1, h2⟩
  unfold zevok at h1
  refine h ⟨b, rfl, ?_⟩
  have ha : a ≤ 3 := by omega
  have := nI_inj (by omega) (by omega) e1
  omega
theorem fevent_0 {S : zS} {v : Int32} : fevent S (-1) v = (.int (nI 0), S.up (zset1 S.n 5 0)) := if_pos rfl
theorem fevent_l {S : zS} {w v x : Int32} (h : ¬ w = -1) (he : zev S.n w v = .inl x) : fevent S w v = (.int x, S) := by
  unfold fevent
  rw [if_neg h, he]
theorem fevent_8 {S : zS} {a b : Nat} (h : ¬ nI a = -1) (he : zev S.n (nI a) (nI b) = .inr (a, b)) (h8 : S.n 5 = 8) : fevent S (nI a) (nI b) = (.int (-4), S) := by
  unfold fevent
  rw [if_neg h, he]
  exact if_pos h8
theorem fevent_y {S : zS} {a b : Nat} (h : ¬ nI a = -1) (he : zev S.n (nI a) (nI b) = .inr (a, b)) (h8 : ¬ S.n 5 = 8) : fevent S (nI a) (nI b) = (.int (nI (S.n 5 + 1)), S.up (zset1 (zset1 S.n (57 + S.n 5) (100 * a + b)) 5 (S.n 5 + 1))) := by
  unfold fevent
  rw [if_neg h, he]
  exact if_neg h8
/-- no event of the first sort: no such cell -/
theorem zev_c {n : Nat → Nat} {b : Nat} (hb : b < 2147483648) (hr : n 0 ≤ 3) (hc : n 1 ≤ 3) (h : ¬ isC (n 0) (n 1) (nI (b / 10)) (nI (b % 10))) : ¬ ∃ a b', (nI 0 : Int32) = nI a ∧ nI b = nI b' ∧ zevok n a b' ∧ b' ≤ 99 := by
  rintro ⟨a, b', e1, e2, h1, h2⟩
  have e3 := nI_inj hb (by omega) e2
  subst e3
  have ha : a ≤ 3 := by unfold zevok at h1; omega
  have e4 := nI_inj (by omega) (by omega) e1
  unfold zevok at h1
  exact h ⟨b / 10, b % 10, rfl, rfl, by omega, by omega⟩
theorem zev_m {n : Nat → Nat} {v : Int32} (h : v < 0) : ¬ ∃ a b', (nI 0 : Int32) = nI a ∧ v = nI b' ∧ zevok n a b' ∧ b' ≤ 99 := by
  rintro ⟨a, b', e1, rfl, h1, h2⟩
  exact nI_pos (by omega) h
theorem zev_l {n : Nat → Nat} {w : Nat} {v : Int32} (hw : w ≤ 1) (hr : n 0 ≤ 3) (hc : n 1 ≤ 3) (h : ¬ isLn (n 0) (n 1) (nI w) v) : ¬ ∃ a b', (nI (w + 1) : Int32) = nI a ∧ v = nI b' ∧ zevok n a b' ∧ b' ≤ 99 := by
  rintro ⟨a, b', e1, rfl, h1, h2⟩
  have ha : a ≤ 3 := by unfold zevok at h1; omega
  have e4 := nI_inj (by omega) (by omega) e1
  unfold zevok at h1
  refine h ⟨w, b', rfl, rfl, by omega, ?_⟩
  unfold zlines
  rcases (show w = 0 ∨ w = 1 by omega) with q | q
  · rw [if_pos q]; omega
  · rw [if_neg (by omega), if_pos q]; omega
theorem zev_o {n : Nat → Nat} {w v : Int32} (h0 : ¬ w = nI 0) (h1 : ¬ w = nI 1) (h2 : ¬ w = nI 2) (h3 : ¬ w = nI 3) : ¬ ∃ a b', w = nI a ∧ v = nI b' ∧ zevok n a b' ∧ b' ≤ 99 := by
  rintro ⟨a, b', rfl, e2, q1, q2⟩
  unfold zevok at q1
  rcases (show a = 0 ∨ a = 1 ∨ a = 2 ∨ a = 3 by omega) with q | q | q | q
  · exact h0 (by rw [q])
  · exact h1 (by rw [q])
  · exact h2 (by rw [q])
  · exact h3 (by rw [q])
theorem l_event_0 {I : zI} {J : zJ} {S : zS} (hV : vC I J S) : zPC I J (.int (nI 0), S.up (zset1 S.n 5 0)) (.int (nI 0)) (zup I 14 1 (nI 0)) J := by
  have w0 : vS I 2 S.n := hV.1.1.1
  have w1 : vT I J 6 S.n := hV.1.1.2.1
  have w5 : vN I 11 5 (S.n 4) (fun k => S.n (52 + k) / 100) (fun k => S.n (52 + k) % 100) := hV.1.1.2.2.1
  have w8 : vN I 14 8 (S.n 5) (fun k => S.n (57 + k) / 100) (fun k => S.n (57 + k) % 100) := hV.1.1.2.2.2.1
  have x8 : vN I 17 8 (S.n 6) (fun k => S.n (65 + k) / 100) (fun k => S.n (65 + k) % 100) := hV.1.1.2.2.2.2
  have hb := vC_b hV
  have hs : ∀ k, k ≠ 5 → zset1 S.n 5 0 k = S.n k := fun k h => zset1_o h
  have hm : zset1 S.n 5 0 5 = 0 := zset1_s
  refine zPC_now hV (fun x q1 q2 => zup_o (by omega)) (fun _ _ _ => rfl) ⟨vS_to (vS_n w0 (fun k hk => hs k (by omega))) (zup_o (by omega)) (zup_o (by omega)) (zup_o (by omega)) (zup_o (by omega)), vT_to (vT_n w1 (fun k hk => hs k (by omega))) (zup_o (by omega)) rfl rfl, ?_, ?_, ?_⟩ ?_ rfl
  · exact vNc w5 (fun x q1 q2 => zup_o (by omega)) (hs 4 (by omega)) (fun k hk => by show zset1 S.n 5 0 (52 + k) / 100 = _; rw [hs (52 + k) (by omega)]) (fun k hk => by show zset1 S.n 5 0 (52 + k) % 100 = _; rw [hs (52 + k) (by omega)])
  · rw [hm]; exact vNa w8
  · exact vNc x8 (fun x q1 q2 => zup_o (by omega)) (hs 6 (by omega)) (fun k hk => by show zset1 S.n 5 0 (65 + k) / 100 = _; rw [hs (65 + k) (by omega)]) (fun k hk => by show zset1 S.n 5 0 (65 + k) % 100 = _; rw [hs (65 + k) (by omega)])
  · obtain ⟨q1, q2, q3, q4, q5, q6⟩ := hb
    refine ⟨bS_to q1 (fun k hk => hs k (by omega)), zset1_bT q2 (by omega), ?_, fun k hk => ?_, fun k hk => ?_, fun k hk => ?_⟩
    · refine ⟨?_, ?_, ?_⟩
      all_goals first | (rw [hm]; omega) | (rw [hs _ (by omega)]; omega)
    all_goals first
      | (rw [hm] at hk; exact absurd hk (by omega))
      | (rw [hs _ (by omega)] at hk; unfold zls1; rw [hs 0 (by omega), hs 1 (by omega), hs _ (by omega)]; first | exact q4 k hk | exact q6 k hk)
      | (rw [hs _ (by omega)] at hk; unfold zevok; rw [hs 0 (by omega), hs 1 (by omega), hs _ (by omega)]; exact q5 k hk)
theorem l_event_1 {I : zI} {J : zJ} {S : zS} {a b : Nat} (hV : vC I J S) (hev : zevok S.n a b) (hc : S.n 5 < 8) : zPC I J (.int (nI (S.n 5 + 1)), S.up (zset1 (zset1 S.n (57 + S.n 5) (100 * a + b)) 5 (S.n 5 + 1))) (.int (nI (S.n 5 + 1))) (zup (zup (zup I (14 + 1) (S.n 5) (nI a)) (14 + 2) (S.n 5) (nI b)) 14 1 (nI (S.n 5 + 1))) J := by
  have w0 : vS I 2 S.n := hV.1.1.1
  have w1 : vT I J 6 S.n := hV.1.1.2.1
  have w5 : vN I 11 5 (S.n 4) (fun k => S.n (52 + k) / 100) (fun k => S.n (52 + k) % 100) := hV.1.1.2.2.1
  have w8 : vN I 14 8 (S.n 5) (fun k => S.n (57 + k) / 100) (fun k => S.n (57 + k) % 100) := hV.1.1.2.2.2.1
  have x8 : vN I 17 8 (S.n 6) (fun k => S.n (65 + k) / 100) (fun k => S.n (65 + k) % 100) := hV.1.1.2.2.2.2
  have hb := vC_b hV
  obtain ⟨b1, b2, b3, b4, _⟩ := id hb.1
  have h44 := hb.2.2.1
  have hev3 : a ≤ 3 ∧ b ≤ 99 := by unfold zevok at hev; omega
  have hg : ∃ n', n' = zset1 (zset1 S.n (57 + S.n 5) (100 * a + b)) 5 (S.n 5 + 1) := ⟨_, rfl⟩
  obtain ⟨n', hn'⟩ := hg
  have hs : ∀ k, k ≠ 5 → k ≠ 57 + S.n 5 → n' k = S.n k := fun k h h2 => by rw [hn', zset1_o h, zset1_o h2]
  have hm : n' 5 = S.n 5 + 1 := by rw [hn']; exact zset1_s
  have ho : n' (57 + S.n 5) = 100 * a + b := by rw [hn', zset1_o (by omega)]; exact zset1_s
  rw [← hn']
  refine zPC_now hV (fun x q1 q2 => by rw [zup_o (by omega), zup_o (by omega), zup_o (by omega)]) (fun _ _ _ => rfl) ⟨vS_to (vS_n w0 (fun k hk => hs k (by omega) (by omega))) (by rw [zup_o (by omega), zup_o (by omega), zup_o (by omega)]) (by rw [zup_o (by omega), zup_o (by omega), zup_o (by omega)]) (by rw [zup_o (by omega), zup_o (by omega), zup_o (by omega)]) (by rw [zup_o (by omega), zup_o (by omega), zup_o (by omega)]), vT_to (vT_n w1 (fun k hk => hs k (by omega) (by omega))) (by rw [zup_o (by omega), zup_o (by omega), zup_o (by omega)]) rfl rfl, ?_, ?_, ?_⟩ ?_ rfl
  · exact vNc w5 (fun x q1 q2 => by rw [zup_o (by omega), zup_o (by omega), zup_o (by omega)]) (hs 4 (by omega) (by omega)) (fun k hk => by show n' (52 + k) / 100 = _; rw [hs (52 + k) (by omega) (by omega)]) (fun k hk => by show n' (52 + k) % 100 = _; rw [hs (52 + k) (by omega) (by omega)])
  · rw [hm]; exact vNb w8 hc (fun k hk => by show n' (57 + k) / 100 = _; rw [hs (57 + k) (by omega) (by omega)]) (fun k hk => by show n' (57 + k) % 100 = _; rw [hs (57 + k) (by omega) (by omega)]) (by show n' (57 + S.n 5) / 100 = _; rw [ho]; omega) (by show n' (57 + S.n 5) % 100 = _; rw [ho]; omega)
  · exact vNc x8 (fun x q1 q2 => by rw [zup_o (by omega), zup_o (by omega), zup_o (by omega)]) (hs 6 (by omega) (by omega)) (fun k hk => by show n' (65 + k) / 100 = _; rw [hs (65 + k) (by omega) (by omega)]) (fun k hk => by show n' (65 + k) % 100 = _; rw [hs (65 + k) (by omega) (by omega)])
  · obtain ⟨q1, q2, q3, q4, q5, q6⟩ := hb
    refine ⟨bS_to q1 (fun k hk => hs k (by omega) (by omega)), fun k hk => ?_, ?_, fun k hk => ?_, fun k hk => ?_, fun k hk => ?_⟩
    · rw [hs _ (by omega) (by omega), hs _ (by omega) (by omega)]; exact q2 k hk
    · refine ⟨?_, ?_, ?_⟩
      all_goals first | (rw [hm]; omega) | (rw [hs _ (by omega) (by omega)]; omega)
    all_goals first
      | (rw [hm] at hk
         unfold zevok
         rw [hs 0 (by omega) (by omega), hs 1 (by omega) (by omega)]
         by_cases q : k = S.n 5
         · rw [q, ho, show (100 * a + b) / 100 = a by omega, show (100 * a + b) % 100 = b by omega]; exact hev
         · rw [hs _ (by omega) (by omega)]; exact q5 k (by omega))
      | (rw [hs _ (by omega) (by omega)] at hk; unfold zls1; rw [hs 0 (by omega) (by omega), hs 1 (by omega) (by omega), hs _ (by omega) (by omega)]; first | exact q4 k hk | exact q6 k hk)
      | (rw [hs _ (by omega) (by omega)] at hk; unfold zevok; rw [hs 0 (by omega) (by omega), hs 1 (by omega) (by omega), hs _ (by omega) (by omega)]; exact q5 k hk)
theorem nI_any {v : Int32} (h : ¬ v < 0) : ∃ b, v = nI b ∧ b < 2147483648 := by
  have h1 := fb_rng v
  have h2 : ¬ v.toInt < 0 := fun q => h (by rw [Int32.lt_iff_toInt_lt]; exact q)
  refine ⟨v.toInt.toNat, ?_, by omega⟩
  apply Int32.toInt_inj.mp
  rw [nI_toInt (by omega)]
  omega
theorem nI_ne1 {a : Nat} (h : a < 2147483648) : ¬ nI a = -1 := fun e => by
  have h3 := congrArg Int32.toInt e
  rw [nI_toInt h] at h3
  have h4 : (-1 : Int32).toInt = -1 := by decide
  omega
set_option maxHeartbeats 2000000 in
set_option maxRecDepth 20000 in
theorem l_X9_event {lay : List zL} {Q : Value → zI → zJ → Prop} {S : zS} {d0 : Nat} {a b : Nat} {I : zI} {J : zJ} (hC : kC lay) (hV : vC I J S) (hev : zevok S.n a b) (hq : ∀ r I' J', zPC I J (fevent S (nI a) (nI b)) r I' J' → Q r I' J') : Z lay MX9_event (d0 + 3) 124 [.ref 0, .int (nI a), .int (nI b)] [] I J Q := by
  obtain ⟨c0, ⟨cP, cG⟩, ⟨cX, cQ, cR⟩, ⟨cS, cB, cD⟩, cf1, cf2, cf3, cU⟩ := id hC
  have p0 : lay[1]? = some (.inl (2, [4, 8, 13, 16, 19])) := cP.1
  have s0 : kS lay 2 := cP.2.1
  obtain ⟨s1, s2, s3, s4⟩ := id s0
  have t0 : kT lay 6 := cP.2.2.1
  obtain ⟨t1, t2, t3, t4, t5⟩ := id t0
  have n5 : kN lay 11 5 := cP.2.2.2.1
  have n8 : kN lay 14 8 := cP.2.2.2.2.1
  have m8 : kN lay 17 8 := cP.2.2.2.2.2
  have w0 : vS I 2 S.n := hV.1.1.1
  have w1 : vT I J 6 S.n := hV.1.1.2.1
  have w5 : vN I 11 5 (S.n 4) (fun k => S.n (52 + k) / 100) (fun k => S.n (52 + k) % 100) := hV.1.1.2.2.1
  have w8 : vN I 14 8 (S.n 5) (fun k => S.n (57 + k) / 100) (fun k => S.n (57 + k) % 100) := hV.1.1.2.2.2.1
  have x8 : vN I 17 8 (S.n 6) (fun k => S.n (65 + k) / 100) (fun k => S.n (65 + k) % 100) := hV.1.1.2.2.2.2
  obtain ⟨v0, v1, v2, v3, v4, v5⟩ := id w0
  obtain ⟨y0, y1, y2⟩ := id w1
  have hbN := hV.1.2
  have hB := hbN.1
  have hT := hbN.2.1
  obtain ⟨b1, b2, b3, b4, b5, b6, b7, b8⟩ := id hB
  have ox := cX.1
  have oq := cQ.1
  have ow := cR.1
  have od := cD.1
  have oe := cB.1
  have of1 := cS.1
  have of2 := cS.2.1
  have ou := cU.1
  have og := cG.1
  have on5 := n5.1
  have on8 := n8.1
  have om8 := m8.1
  have ov := cR.2.1.1
  have z1 := cf1
  have z2 := cf2
  have z3 := cf3
  unfold kF at z1 z2 z3
  have hev3 : a ≤ 3 ∧ b ≤ 99 := by unfold zevok at hev; omega
  refine z_aload_n (pc := 124) dX9_event_124 rfl rfl ?_
  refine z_getR (pc := 125) dX9_event_125 f_RX9_12 (by assumption) rfl ?_
  refine z_getR (pc := 128) dX9_event_128 f_RX9_314 (by assumption) rfl ?_
  refine z_iload_n (pc := 131) dX9_event_131 rfl rfl ?_
  refine z_iload_n (pc := 132) dX9_event_132 rfl rfl ?_
  refine z_callV (pc := 133) (c_X1_append8 n8 w8) dX9_event_133 l_RX9_293 m_MX1_append n_MX1_append e_MX1_append rfl (by omega) (by assumption) rfl rfl (Nat.le_of_ble_eq_true rfl) ?_
  rintro _ _ _ ⟨⟨rfl, hp, rfl⟩ | ⟨rfl, hp, rfl⟩, rfl⟩
  · skip
    try dsimp only [zov, Option.toList, List.cons_append, List.nil_append]
    refine z_iret (pc := 136) dX9_event_136 rfl ?_
    first
      | exact hq _ _ _ (zPC_same hV (fevent_8 (nI_ne1 (by omega)) (zev_y hev b2 b4) hp))
      | (refine hq _ _ _ ?_; rw [fevent_y (nI_ne1 (by omega)) (zev_y hev b2 b4) (by omega)]; exact l_event_1 hV hev hp)
      | fail
  · skip
    try dsimp only [zov, Option.toList, List.cons_append, List.nil_append]
    refine z_iret (pc := 136) dX9_event_136 rfl ?_
    first
      | exact hq _ _ _ (zPC_same hV (fevent_8 (nI_ne1 (by omega)) (zev_y hev b2 b4) hp))
      | (refine hq _ _ _ ?_; rw [fevent_y (nI_ne1 (by omega)) (zev_y hev b2 b4) (by omega)]; exact l_event_1 hV hev hp)
      | fail
set_option maxHeartbeats 2000000 in
set_option maxRecDepth 20000 in
theorem c_X9_event {lay : List zL} {I : zI} {J : zJ} {S : zS} (hC : kC lay) (hV : vC I J S) {w v : Int32} : zMet lay MX9_event 3 [.ref 0, .int w, .int v] I J (fun r I' J' => zPC I J (fevent S w v) r I' J') := by
  refine zMet_of (t := MX9_event) (ls := [.ref 0, .int w, .int v]) (by decide +kernel) (Nat.le_of_ble_eq_true rfl) rfl ?_
  obtain ⟨c0, ⟨cP, cG⟩, ⟨cX, cQ, cR⟩, ⟨cS, cB, cD⟩, cf1, cf2, cf3, cU⟩ := id hC
  have p0 : lay[1]? = some (.inl (2, [4, 8, 13, 16, 19])) := cP.1
  have s0 : kS lay 2 := cP.2.1
  obtain ⟨s1, s2, s3, s4⟩ := id s0
  have t0 : kT lay 6 := cP.2.2.1
  obtain ⟨t1, t2, t3, t4, t5⟩ := id t0
  have n5 : kN lay 11 5 := cP.2.2.2.1
  have n8 : kN lay 14 8 := cP.2.2.2.2.1
  have m8 : kN lay 17 8 := cP.2.2.2.2.2
  have w0 : vS I 2 S.n := hV.1.1.1
  have w1 : vT I J 6 S.n := hV.1.1.2.1
  have w5 : vN I 11 5 (S.n 4) (fun k => S.n (52 + k) / 100) (fun k => S.n (52 + k) % 100) := hV.1.1.2.2.1
  have w8 : vN I 14 8 (S.n 5) (fun k => S.n (57 + k) / 100) (fun k => S.n (57 + k) % 100) := hV.1.1.2.2.2.1
  have x8 : vN I 17 8 (S.n 6) (fun k => S.n (65 + k) / 100) (fun k => S.n (65 + k) % 100) := hV.1.1.2.2.2.2
  obtain ⟨v0, v1, v2, v3, v4, v5⟩ := id w0
  obtain ⟨y0, y1, y2⟩ := id w1
  have hbN := hV.1.2
  have hB := hbN.1
  have hT := hbN.2.1
  obtain ⟨b1, b2, b3, b4, b5, b6, b7, b8⟩ := id hB
  have ox := cX.1
  have oq := cQ.1
  have ow := cR.1
  have od := cD.1
  have oe := cB.1
  have of1 := cS.1
  have of2 := cS.2.1
  have ou := cU.1
  have og := cG.1
  have on5 := n5.1
  have on8 := n8.1
  have om8 := m8.1
  have ov := cR.2.1.1
  have z1 := cf1
  have z2 := cf2
  have z3 := cf3
  unfold kF at z1 z2 z3
  refine z_iload_n (pc := 0) dX9_event_0 rfl rfl ?_
  refine z_iconst (pc := 1) (v := -1) dX9_event_1 (by decide) ?_
  refine z_icmp_ne (pc := 2) (tgt := 16) dX9_event_2 (by decide) (fun hb2 => ?_) (fun hb2 => ?_)
  · skip
    refine z_iload_n (pc := 16) dX9_event_16 rfl rfl ?_
    by_cases hsw0 : w = nI 0
    · subst hsw0
      refine z_tableIn (pc := 17) (off := 31) (tgt := 48) dX9_event_17 (by decide) (by decide) (by decide) (by decide) ?_
      refine z_iload_n (pc := 48) dX9_event_48 rfl rfl ?_
      first | refine z_if_ltN (pc := 49) (tgt := 73) (by with_reducible rfl) dX9_event_49 (by decide) (by omega) (fun hb49 => ?_) (fun hb49 => ?_) | refine z_if_lt (pc := 49) (tgt := 73) dX9_event_49 (by decide) (fun hb49 => ?_) (fun hb49 => ?_)
      · skip
        refine z_iconst (pc := 73) (v := -1) dX9_event_73 (by decide) ?_
        refine z_iret (pc := 74) dX9_event_74 rfl ?_
        first
          | (rw [fevent_0]; exact l_event_0 hV)
          | exact zPC_same hV (fevent_l hb2 (zev_n (zev_m hb49) (by decide)))
          | exact zPC_same hV (fevent_l hb2 (zev_n (zev_c (by omega) b2 b4 hc) (by decide)))
          | exact zPC_same hV (fevent_l hb2 (zev_n (zev_l (w := 0) (by omega) b2 b4 hc) (by decide)))
          | exact zPC_same hV (fevent_l hb2 (zev_n (zev_l (w := 1) (by omega) b2 b4 hc) (by decide)))
          | exact zPC_same hV (fevent_l hb2 (zev_3 (isR_1 (by decide) hb110)))
          | exact zPC_same hV (fevent_l hb2 (zev_3 (isR_2 (by decide) (Int32.not_le.mp hb116))))
          | exact zPC_same hV (fevent_l hb2 (zev_n (zev_o hsw0 hsw1 hsw2 hsw3) hsw3))
          | fail
      · skip
        obtain ⟨b, rfl, hbm⟩ := nI_any hb49
        refine z_aload_n (pc := 52) dX9_event_52 rfl rfl ?_
        refine z_getR (pc := 53) dX9_event_53 f_RX9_12 (by assumption) rfl ?_
        refine z_getR (pc := 56) dX9_event_56 f_RX9_83 (by assumption) rfl ?_
        refine z_iload_n (pc := 59) dX9_event_59 rfl rfl ?_
        refine z_bipush (pc := 60) (v := nI 10) dX9_event_60 (by decide) ?_
        refine z_idivN (pc := 62) (by with_reducible rfl) (by with_reducible rfl) dX9_event_62 (by omega) (by omega) (by omega) ?_
        refine z_iload_n (pc := 63) dX9_event_63 rfl rfl ?_
        refine z_bipush (pc := 64) (v := nI 10) dX9_event_64 (by decide) ?_
        refine z_iremN (pc := 66) (by with_reducible rfl) (by with_reducible rfl) dX9_event_66 (by omega) (by omega) (by omega) ?_
        refine z_callV (pc := 67) (c_X6_hasCell s0 w0 hB) dX9_event_67 l_RX9_90 m_MX6_hasCell n_MX6_hasCell e_MX6_hasCell rfl (by omega) (by assumption) rfl rfl (Nat.le_of_ble_eq_true rfl) ?_
        rintro _ _ _ ⟨⟨rfl, hc⟩ | ⟨rfl, hc⟩, rfl, rfl⟩
        · obtain ⟨c1, c2, e1, e2, ha, hbb⟩ := hc; obtain rfl := nI_inj (a := b / 10) (by omega) (by omega) e1; obtain rfl := nI_inj (a := b % 10) (by omega) (by omega) e2
          try dsimp only [zov, Option.toList, List.cons_append, List.nil_append]
          first | refine z_if_neN (pc := 70) (tgt := 124) (by with_reducible rfl) dX9_event_70 (by decide) (by omega) (fun hb70 => ?_) (fun hb70 => absurd hb70 (by decide)) | refine z_if_ne (pc := 70) (tgt := 124) dX9_event_70 (by decide) (fun hb70 => ?_) (fun hb70 => absurd hb70 (by decide))
          · skip
            first
            | exact l_X9_event hC hV (a := 0) (b := b) (by unfold zevok; omega) (fun _ _ _ h => h)
            | exact l_X9_event hC hV (a := 1) (b := b) (by have q : b < S.n 0 := hbb; unfold zevok; omega) (fun _ _ _ h => h)
            | exact l_X9_event hC hV (a := 2) (b := b) (by have q : b < S.n 1 := hbb; unfold zevok; omega) (fun _ _ _ h => h)
            | (obtain ⟨b, rfl, hbm⟩ := nI_get2 (m := 60) (by omega) hb110 (Int32.not_lt.mpr hb116); exact l_X9_event hC hV (a := 3) (b := b) (by unfold zevok; omega) (fun _ _ _ h => h))
            | fail
        · skip
          try dsimp only [zov, Option.toList, List.cons_append, List.nil_append]
          first | refine z_if_neN (pc := 70) (tgt := 124) (by with_reducible rfl) dX9_event_70 (by decide) (by omega) (fun hb70 => absurd hb70 (by decide)) (fun hb70 => ?_) | refine z_if_ne (pc := 70) (tgt := 124) dX9_event_70 (by decide) (fun hb70 => absurd hb70 (by decide)) (fun hb70 => ?_)
          · skip
            refine z_iconst (pc := 73) (v := -1) dX9_event_73 (by decide) ?_
            refine z_iret (pc := 74) dX9_event_74 rfl ?_
            first
              | (rw [fevent_0]; exact l_event_0 hV)
              | exact zPC_same hV (fevent_l hb2 (zev_n (zev_m hb49) (by decide)))
              | exact zPC_same hV (fevent_l hb2 (zev_n (zev_c (by omega) b2 b4 hc) (by decide)))
              | exact zPC_same hV (fevent_l hb2 (zev_n (zev_l (w := 0) (by omega) b2 b4 hc) (by decide)))
              | exact zPC_same hV (fevent_l hb2 (zev_n (zev_l (w := 1) (by omega) b2 b4 hc) (by decide)))
              | exact zPC_same hV (fevent_l hb2 (zev_3 (isR_1 (by decide) hb110)))
              | exact zPC_same hV (fevent_l hb2 (zev_3 (isR_2 (by decide) (Int32.not_le.mp hb116))))
              | exact zPC_same hV (fevent_l hb2 (zev_n (zev_o hsw0 hsw1 hsw2 hsw3) hsw3))
              | fail
    by_cases hsw1 : w = nI 1
    · subst hsw1
      refine z_tableIn (pc := 17) (off := 58) (tgt := 75) dX9_event_17 (by decide) (by decide) (by decide) (by decide) ?_
      refine z_aload_n (pc := 75) dX9_event_75 rfl rfl ?_
      refine z_getR (pc := 76) dX9_event_76 f_RX9_12 (by assumption) rfl ?_
      refine z_getR (pc := 79) dX9_event_79 f_RX9_83 (by assumption) rfl ?_
      refine z_iconst (pc := 82) (v := nI 0) dX9_event_82 (by decide) ?_
      refine z_iload_n (pc := 83) dX9_event_83 rfl rfl ?_
      refine z_callV (pc := 84) (c_X6_hasLine s0 w0 hB) dX9_event_84 l_RX9_112 m_MX6_hasLine n_MX6_hasLine e_MX6_hasLine rfl (by omega) (by assumption) rfl rfl (Nat.le_of_ble_eq_true rfl) ?_
      rintro _ _ _ ⟨⟨rfl, hc⟩ | ⟨rfl, hc⟩, rfl, rfl⟩
      · obtain ⟨a, b, e1, rfl, ha, hbb⟩ := hc; obtain rfl := nI_inj (a := 0) (by omega) (by omega) e1
        try dsimp only [zov, Option.toList, List.cons_append, List.nil_append]
        first | refine z_if_neN (pc := 87) (tgt := 124) (by with_reducible rfl) dX9_event_87 (by decide) (by omega) (fun hb87 => ?_) (fun hb87 => absurd hb87 (by decide)) | refine z_if_ne (pc := 87) (tgt := 124) dX9_event_87 (by decide) (fun hb87 => ?_) (fun hb87 => absurd hb87 (by decide))
        · skip
          first
          | exact l_X9_event hC hV (a := 0) (b := b) (by unfold zevok; omega) (fun _ _ _ h => h)
          | exact l_X9_event hC hV (a := 1) (b := b) (by have q : b < S.n 0 := hbb; unfold zevok; omega) (fun _ _ _ h => h)
          | exact l_X9_event hC hV (a := 2) (b := b) (by have q : b < S.n 1 := hbb; unfold zevok; omega) (fun _ _ _ h => h)
          | (obtain ⟨b, rfl, hbm⟩ := nI_get2 (m := 60) (by omega) hb110 (Int32.not_lt.mpr hb116); exact l_X9_event hC hV (a := 3) (b := b) (by unfold zevok; omega) (fun _ _ _ h => h))
          | fail
      · skip
        try dsimp only [zov, Option.toList, List.cons_append, List.nil_append]
        first | refine z_if_neN (pc := 87) (tgt := 124) (by with_reducible rfl) dX9_event_87 (by decide) (by omega) (fun hb87 => absurd hb87 (by decide)) (fun hb87 => ?_) | refine z_if_ne (pc := 87) (tgt := 124) dX9_event_87 (by decide) (fun hb87 => absurd hb87 (by decide)) (fun hb87 => ?_)
        · skip
          refine z_iconst (pc := 90) (v := -1) dX9_event_90 (by decide) ?_
          refine z_iret (pc := 91) dX9_event_91 rfl ?_
          first
            | (rw [fevent_0]; exact l_event_0 hV)
            | exact zPC_same hV (fevent_l hb2 (zev_n (zev_m hb49) (by decide)))
            | exact zPC_same hV (fevent_l hb2 (zev_n (zev_c (by omega) b2 b4 hc) (by decide)))
            | exact zPC_same hV (fevent_l hb2 (zev_n (zev_l (w := 0) (by omega) b2 b4 hc) (by decide)))
            | exact zPC_same hV (fevent_l hb2 (zev_n (zev_l (w := 1) (by omega) b2 b4 hc) (by decide)))
            | exact zPC_same hV (fevent_l hb2 (zev_3 (isR_1 (by decide) hb110)))
            | exact zPC_same hV (fevent_l hb2 (zev_3 (isR_2 (by decide) (Int32.not_le.mp hb116))))
            | exact zPC_same hV (fevent_l hb2 (zev_n (zev_o hsw0 hsw1 hsw2 hsw3) hsw3))
            | fail
    by_cases hsw2 : w = nI 2
    · subst hsw2
      refine z_tableIn (pc := 17) (off := 75) (tgt := 92) dX9_event_17 (by decide) (by decide) (by decide) (by decide) ?_
      refine z_aload_n (pc := 92) dX9_event_92 rfl rfl ?_
      refine z_getR (pc := 93) dX9_event_93 f_RX9_12 (by assumption) rfl ?_
      refine z_getR (pc := 96) dX9_event_96 f_RX9_83 (by assumption) rfl ?_
      refine z_iconst (pc := 99) (v := nI 1) dX9_event_99 (by decide) ?_
      refine z_iload_n (pc := 100) dX9_event_100 rfl rfl ?_
      refine z_callV (pc := 101) (c_X6_hasLine s0 w0 hB) dX9_event_101 l_RX9_112 m_MX6_hasLine n_MX6_hasLine e_MX6_hasLine rfl (by omega) (by assumption) rfl rfl (Nat.le_of_ble_eq_true rfl) ?_
      rintro _ _ _ ⟨⟨rfl, hc⟩ | ⟨rfl, hc⟩, rfl, rfl⟩
      · obtain ⟨a, b, e1, rfl, ha, hbb⟩ := hc; obtain rfl := nI_inj (a := 1) (by omega) (by omega) e1
        try dsimp only [zov, Option.toList, List.cons_append, List.nil_append]
        first | refine z_if_neN (pc := 104) (tgt := 124) (by with_reducible rfl) dX9_event_104 (by decide) (by omega) (fun hb104 => ?_) (fun hb104 => absurd hb104 (by decide)) | refine z_if_ne (pc := 104) (tgt := 124) dX9_event_104 (by decide) (fun hb104 => ?_) (fun hb104 => absurd hb104 (by decide))
        · skip
          first
          | exact l_X9_event hC hV (a := 0) (b := b) (by unfold zevok; omega) (fun _ _ _ h => h)
          | exact l_X9_event hC hV (a := 1) (b := b) (by have q : b < S.n 0 := hbb; unfold zevok; omega) (fun _ _ _ h => h)
          | exact l_X9_event hC hV (a := 2) (b := b) (by have q : b < S.n 1 := hbb; unfold zevok; omega) (fun _ _ _ h => h)
          | (obtain ⟨b, rfl, hbm⟩ := nI_get2 (m := 60) (by omega) hb110 (Int32.not_lt.mpr hb116); exact l_X9_event hC hV (a := 3) (b := b) (by unfold zevok; omega) (fun _ _ _ h => h))
          | fail
      · skip
        try dsimp only [zov, Option.toList, List.cons_append, List.nil_append]
        first | refine z_if_neN (pc := 104) (tgt := 124) (by with_reducible rfl) dX9_event_104 (by decide) (by omega) (fun hb104 => absurd hb104 (by decide)) (fun hb104 => ?_) | refine z_if_ne (pc := 104) (tgt := 124) dX9_event_104 (by decide) (fun hb104 => absurd hb104 (by decide)) (fun hb104 => ?_)
        · skip
          refine z_iconst (pc := 107) (v := -1) dX9_event_107 (by decide) ?_
          refine z_iret (pc := 108) dX9_event_108 rfl ?_
          first
            | (rw [fevent_0]; exact l_event_0 hV)
            | exact zPC_same hV (fevent_l hb2 (zev_n (zev_m hb49) (by decide)))
            | exact zPC_same hV (fevent_l hb2 (zev_n (zev_c (by omega) b2 b4 hc) (by decide)))
            | exact zPC_same hV (fevent_l hb2 (zev_n (zev_l (w := 0) (by omega) b2 b4 hc) (by decide)))
            | exact zPC_same hV (fevent_l hb2 (zev_n (zev_l (w := 1) (by omega) b2 b4 hc) (by decide)))
            | exact zPC_same hV (fevent_l hb2 (zev_3 (isR_1 (by decide) hb110)))
            | exact zPC_same hV (fevent_l hb2 (zev_3 (isR_2 (by decide) (Int32.not_le.mp hb116))))
            | exact zPC_same hV (fevent_l hb2 (zev_n (zev_o hsw0 hsw1 hsw2 hsw3) hsw3))
            | fail
    by_cases hsw3 : w = nI 3
    · subst hsw3
      refine z_tableIn (pc := 17) (off := 92) (tgt := 109) dX9_event_17 (by decide) (by decide) (by decide) (by decide) ?_
      refine z_iload_n (pc := 109) dX9_event_109 rfl rfl ?_
      first | refine z_if_ltN (pc := 110) (tgt := 119) (by with_reducible rfl) dX9_event_110 (by decide) (by omega) (fun hb110 => ?_) (fun hb110 => ?_) | refine z_if_lt (pc := 110) (tgt := 119) dX9_event_110 (by decide) (fun hb110 => ?_) (fun hb110 => ?_)
      · skip
        refine z_bipush (pc := 119) (v := -2) dX9_event_119 (by decide) ?_
        refine z_iret (pc := 121) dX9_event_121 rfl ?_
        first
          | (rw [fevent_0]; exact l_event_0 hV)
          | exact zPC_same hV (fevent_l hb2 (zev_n (zev_m hb49) (by decide)))
          | exact zPC_same hV (fevent_l hb2 (zev_n (zev_c (by omega) b2 b4 hc) (by decide)))
          | exact zPC_same hV (fevent_l hb2 (zev_n (zev_l (w := 0) (by omega) b2 b4 hc) (by decide)))
          | exact zPC_same hV (fevent_l hb2 (zev_n (zev_l (w := 1) (by omega) b2 b4 hc) (by decide)))
          | exact zPC_same hV (fevent_l hb2 (zev_3 (isR_1 (by decide) hb110)))
          | exact zPC_same hV (fevent_l hb2 (zev_3 (isR_2 (by decide) (Int32.not_le.mp hb116))))
          | exact zPC_same hV (fevent_l hb2 (zev_n (zev_o hsw0 hsw1 hsw2 hsw3) hsw3))
          | fail
      · skip
        refine z_iload_n (pc := 113) dX9_event_113 rfl rfl ?_
        refine z_bipush (pc := 114) (v := nI 60) dX9_event_114 (by decide) ?_
        first | refine z_icmp_leN (pc := 116) (tgt := 124) (by with_reducible rfl) (by with_reducible rfl) dX9_event_116 (by decide) (by omega) (by omega) (fun hb116 => ?_) (fun hb116 => ?_) | refine z_icmp_le (pc := 116) (tgt := 124) dX9_event_116 (by decide) (fun hb116 => ?_) (fun hb116 => ?_)
        · skip
          first
          | exact l_X9_event hC hV (a := 0) (b := b) (by unfold zevok; omega) (fun _ _ _ h => h)
          | exact l_X9_event hC hV (a := 1) (b := b) (by have q : b < S.n 0 := hbb; unfold zevok; omega) (fun _ _ _ h => h)
          | exact l_X9_event hC hV (a := 2) (b := b) (by have q : b < S.n 1 := hbb; unfold zevok; omega) (fun _ _ _ h => h)
          | (obtain ⟨b, rfl, hbm⟩ := nI_get2 (m := 60) (by omega) hb110 (Int32.not_lt.mpr hb116); exact l_X9_event hC hV (a := 3) (b := b) (by unfold zevok; omega) (fun _ _ _ h => h))
          | fail
        · skip
          refine z_bipush (pc := 119) (v := -2) dX9_event_119 (by decide) ?_
          refine z_iret (pc := 121) dX9_event_121 rfl ?_
          first
            | (rw [fevent_0]; exact l_event_0 hV)
            | exact zPC_same hV (fevent_l hb2 (zev_n (zev_m hb49) (by decide)))
            | exact zPC_same hV (fevent_l hb2 (zev_n (zev_c (by omega) b2 b4 hc) (by decide)))
            | exact zPC_same hV (fevent_l hb2 (zev_n (zev_l (w := 0) (by omega) b2 b4 hc) (by decide)))
            | exact zPC_same hV (fevent_l hb2 (zev_n (zev_l (w := 1) (by omega) b2 b4 hc) (by decide)))
            | exact zPC_same hV (fevent_l hb2 (zev_3 (isR_1 (by decide) hb110)))
            | exact zPC_same hV (fevent_l hb2 (zev_3 (isR_2 (by decide) (Int32.not_le.mp hb116))))
            | exact zPC_same hV (fevent_l hb2 (zev_n (zev_o hsw0 hsw1 hsw2 hsw3) hsw3))
            | fail
    · skip
      refine z_tableOut (pc := 17) (tgt := 122) dX9_event_17 (by have e0 : w.toInt ≠ 0 := fun h => hsw0 (Int32.toInt_inj.mp (h.trans (by decide))); have e1 : w.toInt ≠ 1 := fun h => hsw1 (Int32.toInt_inj.mp (h.trans (by decide))); have e2 : w.toInt ≠ 2 := fun h => hsw2 (Int32.toInt_inj.mp (h.trans (by decide))); have e3 : w.toInt ≠ 3 := fun h => hsw3 (Int32.toInt_inj.mp (h.trans (by decide))); omega) (by decide) ?_
      refine z_iconst (pc := 122) (v := -1) dX9_event_122 (by decide) ?_
      refine z_iret (pc := 123) dX9_event_123 rfl ?_
      first
        | (rw [fevent_0]; exact l_event_0 hV)
        | exact zPC_same hV (fevent_l hb2 (zev_n (zev_m hb49) (by decide)))
        | exact zPC_same hV (fevent_l hb2 (zev_n (zev_c (by omega) b2 b4 hc) (by decide)))
        | exact zPC_same hV (fevent_l hb2 (zev_n (zev_l (w := 0) (by omega) b2 b4 hc) (by decide)))
        | exact zPC_same hV (fevent_l hb2 (zev_n (zev_l (w := 1) (by omega) b2 b4 hc) (by decide)))
        | exact zPC_same hV (fevent_l hb2 (zev_3 (isR_1 (by decide) hb110)))
        | exact zPC_same hV (fevent_l hb2 (zev_3 (isR_2 (by decide) (Int32.not_le.mp hb116))))
        | exact zPC_same hV (fevent_l hb2 (zev_n (zev_o hsw0 hsw1 hsw2 hsw3) hsw3))
        | fail
  · skip
    subst hb2
    refine z_aload_n (pc := 5) dX9_event_5 rfl rfl ?_
    refine z_getR (pc := 6) dX9_event_6 f_RX9_12 (by assumption) rfl ?_
    refine z_getR (pc := 9) dX9_event_9 f_RX9_314 (by assumption) rfl ?_
    refine z_callV (pc := 12) (c_X1_empty n8) dX9_event_12 l_RX9_288 m_MX1_empty n_MX1_empty e_MX1_empty rfl (by omega) (by assumption) rfl rfl (Nat.le_of_ble_eq_true rfl) ?_
    rintro _ _ _ (⟨rfl, rfl, rfl⟩)
    try dsimp only [zov, Option.toList, List.cons_append, List.nil_append]
    refine z_iret (pc := 15) dX9_event_15 rfl ?_
    first
      | (rw [fevent_0]; exact l_event_0 hV)
      | exact zPC_same hV (fevent_l hb2 (zev_n (zev_m hb49) (by decide)))
      | exact zPC_same hV (fevent_l hb2 (zev_n (zev_c (by omega) b2 b4 hc) (by decide)))
      | exact zPC_same hV (fevent_l hb2 (zev_n (zev_l (w := 0) (by omega) b2 b4 hc) (by decide)))
      | exact zPC_same hV (fevent_l hb2 (zev_n (zev_l (w := 1) (by omega) b2 b4 hc) (by decide)))
      | exact zPC_same hV (fevent_l hb2 (zev_3 (isR_1 (by decide) hb110)))
      | exact zPC_same hV (fevent_l hb2 (zev_3 (isR_2 (by decide) (Int32.not_le.mp hb116))))
      | exact zPC_same hV (fevent_l hb2 (zev_n (zev_o hsw0 hsw1 hsw2 hsw3) hsw3))
      | fail
