/-! ===== the class's calls: whole numbers, ratios, orders ===== -/
theorem zkp_f {I I' : zI} (h : ∀ x, (x < 59 ∨ 59 + 5 < x) → I' x = I x) : zkp I I' := fun x hx => h x (by omega)
theorem zkp_g {J J' : zJ} (h : ∀ x, x ≠ 59 + 6 → x ≠ 59 + 7 → J' x = J x) : zkp J J' := fun x hx => h x (by omega) (by omega)
set_option maxHeartbeats 2000000 in
set_option maxRecDepth 20000 in
theorem c_X9_rounded {lay : List zL} {I : zI} {J : zJ} {S : zS} (hC : kC lay) (hV : vC I J S) {i j : Int32} : zMet lay MX9_rounded 22 [.ref 0, .int i, .int j] I J (fun r I' J' => zPC I J (frounded S i j) r I' J') := by
  refine zMet_of (t := MX9_rounded) (ls := [.ref 0, .int i, .int j]) (by decide +kernel) (Nat.le_of_ble_eq_true rfl) rfl ?_
  obtain ⟨c0, ⟨cP, cG⟩, ⟨cX, cQ, cR⟩, ⟨cS, cB, cD⟩, cf1, cf2, cf3, cU⟩ := id hC
  have p0 : lay[1]? = some (.inl (2, [4, 8, 13, 16, 19])) := cP.1
  have s0 : kS lay 2 := cP.2.1
  obtain ⟨s1, s2, s3, s4⟩ := id s0
  have t0 : kT lay 6 := cP.2.2.1
  obtain ⟨t1, t2, t3, t4, t5⟩ := id t0
  have n5 : kN lay 11 5 := cP.2.2.2.1
  have n8 : kN lay 14 8 := cP.2.2.2.2.1
  have m8 : kN lay 17 8 := cP.2.2.2.2.2
  have w0 : vS I 2 S.n := hV.1.1.1
  have w1 : vT I J 6 S.n := hV.1.1.2.1
  have w5 : vN I 11 5 (S.n 4) (fun k => S.n (52 + k) / 100) (fun k => S.n (52 + k) % 100) := hV.1.1.2.2.1
  have w8 : vN I 14 8 (S.n 5) (fun k => S.n (57 + k) / 100) (fun k => S.n (57 + k) % 100) := hV.1.1.2.2.2.1
  have x8 : vN I 17 8 (S.n 6) (fun k => S.n (65 + k) / 100) (fun k => S.n (65 + k) % 100) := hV.1.1.2.2.2.2
  obtain ⟨v0, v1, v2, v3, v4, v5⟩ := id w0
  obtain ⟨y0, y1, y2⟩ := id w1
  have hb := hV.1.2
  have hB := hb.1
  have hT := hb.2.1
  obtain ⟨b1, b2, b3, b4, b5, b6, b7, b8⟩ := id hB
  have ox := cX.1
  have oq := cQ.1
  have ow := cR.1
  have od := cD.1
  have oe := cB.1
  have of1 := cS.1
  have of2 := cS.2.1
  have ou := cU.1
  have og := cG.1
  have on5 := n5.1
  have on8 := n8.1
  have om8 := m8.1
  have ov := cR.2.1.1
  have z1 := cf1
  have z2 := cf2
  have z3 := cf3
  unfold kF at z1 z2 z3
  refine z_aload_n (pc := 0) dX9_rounded_0 rfl rfl ?_
  refine z_getR (pc := 1) dX9_rounded_1 f_RX9_12 (by assumption) rfl ?_
  refine z_getR (pc := 4) dX9_rounded_4 f_RX9_83 (by assumption) rfl ?_
  refine z_iload_n (pc := 7) dX9_rounded_7 rfl rfl ?_
  refine z_iload_n (pc := 8) dX9_rounded_8 rfl rfl ?_
  refine z_callV (pc := 9) (c_X6_hasCell s0 w0 hB) dX9_rounded_9 l_RX9_90 m_MX6_hasCell n_MX6_hasCell e_MX6_hasCell rfl (by omega) (by assumption) rfl rfl (Nat.le_of_ble_eq_true rfl) ?_
  rintro _ _ _ ⟨⟨rfl, hc⟩ | ⟨rfl, hc⟩, rfl, rfl⟩
  · obtain ⟨a, b, rfl, rfl, ha, hbb⟩ := hc; have hk : 3 * a + b < 9 := (by omega)
    try dsimp only [zov, Option.toList, List.cons_append, List.nil_append]
    first | refine z_if_neN (pc := 12) (tgt := 17) (by with_reducible rfl) dX9_rounded_12 (by decide) (by omega) (fun hb12 => ?_) (fun hb12 => absurd hb12 (by decide)) | refine z_if_ne (pc := 12) (tgt := 17) dX9_rounded_12 (by decide) (fun hb12 => ?_) (fun hb12 => absurd hb12 (by decide))
    · skip
      refine z_aload_n (pc := 17) dX9_rounded_17 rfl rfl ?_
      refine z_getR (pc := 18) dX9_rounded_18 f_RX9_38 (by assumption) rfl ?_
      refine z_aload_n (pc := 21) dX9_rounded_21 rfl rfl ?_
      refine z_getR (pc := 22) dX9_rounded_22 f_RX9_12 (by assumption) rfl ?_
      refine z_getR (pc := 25) dX9_rounded_25 f_RX9_83 (by assumption) rfl ?_
      refine z_aload_n (pc := 28) dX9_rounded_28 rfl rfl ?_
      refine z_getR (pc := 29) dX9_rounded_29 f_RX9_12 (by assumption) rfl ?_
      refine z_getR (pc := 32) dX9_rounded_32 f_RX9_102 (by assumption) rfl ?_
      refine z_callV (pc := 35) (c_X4_isFound s0 w0 hB t0 w1 hT cR (by omega) (by omega)) dX9_rounded_35 l_RX9_250 m_MX4_isFound n_MX4_isFound e_MX4_isFound rfl (by omega) (by assumption) rfl rfl (Nat.le_of_ble_eq_true rfl) ?_
      rintro _ _ _ ⟨⟨rfl, v, hv, ha9⟩ | ⟨rfl, hv⟩, hi, hj⟩
      · skip
        try dsimp only [zov, Option.toList, List.cons_append, List.nil_append]
        first | refine z_if_neN (pc := 38) (tgt := 44) (by with_reducible rfl) dX9_rounded_38 (by decide) (by omega) (fun hb38 => ?_) (fun hb38 => absurd hb38 (by decide)) | refine z_if_ne (pc := 38) (tgt := 44) dX9_rounded_38 (by decide) (fun hb38 => ?_) (fun hb38 => absurd hb38 (by decide))
        · skip
          refine z_aload_n (pc := 44) dX9_rounded_44 rfl rfl ?_
          refine z_getR (pc := 45) dX9_rounded_45 f_RX9_38 (by assumption) rfl ?_
          refine z_getR (pc := 48) dX9_rounded_48 f_RX9_253 (by assumption) rfl ?_
          refine z_iload_n (pc := 51) dX9_rounded_51 rfl rfl ?_
          refine z_iload_n (pc := 52) dX9_rounded_52 rfl rfl ?_
          refine z_callS (pc := 53) c_X9_place dX9_rounded_53 l_RX9_98 m_MX9_place s_MX9_place rfl (by omega) rfl (Nat.le_of_ble_eq_true rfl) ?_
          rintro _ _ _ (⟨rfl, rfl, rfl⟩)
          try dsimp only [zov, Option.toList, List.cons_append, List.nil_append]
          refine z_ialoadv (pc := 56) dX9_rounded_56 (by assumption) (by with_reducible rfl) (by omega) (by decide) (by first | assumption | exact v3 _ (by omega) | exact v4 _ (by omega) | exact v5 _ (by omega) | exact y0 _ (by omega) | exact y1 _ (by omega) | exact (ha9 _ hk (by omega) (by omega)).1 | rfl) ?_
          refine z_iret (pc := 57) dX9_rounded_57 rfl ?_
          first
            | exact zPC_same hV (by rw [frounded, zC_n hc])
            | exact zPC_keep hV (zkp_f hi) (zkp_g hj) (by rw [frounded, zC_y b2 b4 ha hbb]; dsimp only; rw [hv])
            | fail
      · skip
        try dsimp only [zov, Option.toList, List.cons_append, List.nil_append]
        first | refine z_if_neN (pc := 38) (tgt := 44) (by with_reducible rfl) dX9_rounded_38 (by decide) (by omega) (fun hb38 => absurd hb38 (by decide)) (fun hb38 => ?_) | refine z_if_ne (pc := 38) (tgt := 44) dX9_rounded_38 (by decide) (fun hb38 => absurd hb38 (by decide)) (fun hb38 => ?_)
        · skip
          refine z_bipush (pc := 41) (v := -6) dX9_rounded_41 (by decide) ?_
          refine z_iret (pc := 43) dX9_rounded_43 rfl ?_
          first
            | exact zPC_same hV (by rw [frounded, zC_n hc])
            | exact zPC_keep hV (zkp_f hi) (zkp_g hj) (by rw [frounded, zC_y b2 b4 ha hbb]; dsimp only; rw [hv])
            | fail
  · skip
    try dsimp only [zov, Option.toList, List.cons_append, List.nil_append]
    first | refine z_if_neN (pc := 12) (tgt := 17) (by with_reducible rfl) dX9_rounded_12 (by decide) (by omega) (fun hb12 => absurd hb12 (by decide)) (fun hb12 => ?_) | refine z_if_ne (pc := 12) (tgt := 17) dX9_rounded_12 (by decide) (fun hb12 => absurd hb12 (by decide)) (fun hb12 => ?_)
    · skip
      refine z_iconst (pc := 15) (v := -1) dX9_rounded_15 (by decide) ?_
      refine z_iret (pc := 16) dX9_rounded_16 rfl ?_
      first
        | exact zPC_same hV (by rw [frounded, zC_n hc])
        | exact zPC_keep hV (zkp_f hi) (zkp_g hj) (by rw [frounded, zC_y b2 b4 ha hbb]; dsimp only; rw [hv])
        | fail
set_option maxHeartbeats 2000000 in
set_option maxRecDepth 20000 in
theorem l_X9_together {lay : List zL} {Q : Value → zI → zJ → Prop} {S : zS} {d0 a l : Nat} {I : zI} {J : zJ} {v : Nat → Nat} (hC : kC lay) (w0 : vS I 2 S.n) (hB : bS S.n) (ha2 : a ≤ 2) (hl2 : l < 3) (ha9 : zagr I 59 S.n v 9) : ∀ (m i j x : Nat), 4 * (S.n 0 - i) + (S.n 1 - j) < m → i < S.n 0 → j ≤ S.n 1 → Q (.int (nI (x + zlsum (zif (zP S.n a l) v) (zl (S.n 0) (S.n 1) (3 * i + j))))) I J → Z lay MX9_together (d0 + 2) 67 [.ref 0, .int (nI a), .int (nI l), .int (nI x), .int (nI i), .int (nI j)] [] I J Q := by
  obtain ⟨c0, ⟨cP, cG⟩, ⟨cX, cQ, cR⟩, ⟨cS, cB, cD⟩, cf1, cf2, cf3, cU⟩ := id hC
  have p0 : lay[1]? = some (.inl (2, [4, 8, 13, 16, 19])) := cP.1
  have s0 : kS lay 2 := cP.2.1
  obtain ⟨s1, s2, s3, s4⟩ := id s0
  have ow := cR.1
  have ov := cR.2.1.1
  obtain ⟨v0, v1, v2, v3, v4, v5⟩ := id w0
  obtain ⟨b1, b2, b3, b4, b5, b6, b7, b8⟩ := id hB
  intro m
  induction m with
  | zero => intro i j x h; exact absurd h (by omega)
  | succ m ih =>
    intro i j x hm hi hj hq
    refine z_iload (pc := 67) dX9_together_67 rfl ?_
    refine z_aload_n (pc := 69) dX9_together_69 rfl rfl ?_
    refine z_getR (pc := 70) dX9_together_70 f_RX9_12 (by assumption) rfl ?_
    refine z_getR (pc := 73) dX9_together_73 f_RX9_83 (by assumption) rfl ?_
    refine z_getIv (pc := 76) dX9_together_76 f_RX9_237 (by assumption) rfl (by first | assumption | exact (ha9 _ (by omega) (by omega) (by omega)).1 | rfl) ?_
    first | refine z_icmp_geN (pc := 79) (tgt := 125) (by with_reducible rfl) (by with_reducible rfl) dX9_together_79 (by decide) (by omega) (by omega) (fun hb79 => ?_) (fun hb79 => ?_) | refine z_icmp_ge (pc := 79) (tgt := 125) dX9_together_79 (by decide) (fun hb79 => ?_) (fun hb79 => ?_)
    · skip
      first | refine z_iincN (pc := 125) (c := 1) dX9_together_125 rfl (by with_reducible rfl) (by decide) (by decide) rfl ?_ | refine z_iinc (pc := 125) dX9_together_125 rfl rfl (by decide) rfl ?_
      try dsimp only [zst1, zst2, zk]
      refine z_goto (pc := 128) (tgt := 49) dX9_together_128 (by decide) ?_
      refine z_iload (pc := 49) dX9_together_49 rfl ?_
      refine z_aload_n (pc := 51) dX9_together_51 rfl rfl ?_
      refine z_getR (pc := 52) dX9_together_52 f_RX9_12 (by assumption) rfl ?_
      refine z_getR (pc := 55) dX9_together_55 f_RX9_83 (by assumption) rfl ?_
      refine z_getIv (pc := 58) dX9_together_58 f_RX9_234 (by assumption) rfl (by first | assumption | exact (ha9 _ (by omega) (by omega) (by omega)).1 | rfl) ?_
      first | refine z_icmp_geN (pc := 61) (tgt := 131) (by with_reducible rfl) (by with_reducible rfl) dX9_together_61 (by decide) (by omega) (by omega) (fun hb61 => ?_) (fun hb61 => ?_) | refine z_icmp_ge (pc := 61) (tgt := 131) dX9_together_61 (by decide) (fun hb61 => ?_) (fun hb61 => ?_)
      · skip
        refine z_iload_n (pc := 131) dX9_together_131 rfl rfl ?_
        refine z_iret (pc := 132) dX9_together_132 rfl ?_
        obtain rfl : j = S.n 1 := (by omega); obtain h9 : i + 1 = S.n 0 := (by omega); rw [zl_row _ b2 _ b4 _ hi, h9, zl_end _ b2 _ b4] at hq; exact hq
      · skip
        refine z_iconst (pc := 64) (v := nI 0) dX9_together_64 (by decide) ?_
        refine z_istore (pc := 65) dX9_together_65 (by decide) rfl ?_
        try dsimp only [zst1, zst2, zk]
        first
          | exact ih i (j + 1) _ (by omega) hi (by omega) (by rw [zl_in _ b2 _ b4 _ hi _ (by omega)] at hq; simp only [zlsum] at hq; rw [show zif (zP S.n a l) v (3 * i + j) = v (3 * i + j) from if_pos (decide_eq_true (by omega)), ← Nat.add_assoc] at hq; exact hq)
          | exact ih i (j + 1) _ (by omega) hi (by omega) (by rw [zl_in _ b2 _ b4 _ hi _ (by omega)] at hq; simp only [zlsum] at hq; rw [show zif (zP S.n a l) v (3 * i + j) = 0 from if_neg (fun q => by have := of_decide_eq_true q; omega), Nat.zero_add] at hq; exact hq)
          | exact ih (i + 1) 0 _ (by omega) (by omega) (by omega) (by obtain rfl : j = S.n 1 := (by omega); rw [zl_row _ b2 _ b4 _ hi] at hq; exact hq)
          | fail
    · skip
      refine z_aload_n (pc := 82) dX9_together_82 rfl rfl ?_
      refine z_getR (pc := 83) dX9_together_83 f_RX9_12 (by assumption) rfl ?_
      refine z_getR (pc := 86) dX9_together_86 f_RX9_83 (by assumption) rfl ?_
      refine z_iload_n (pc := 89) dX9_together_89 rfl rfl ?_
      refine z_iload (pc := 90) dX9_together_90 rfl ?_
      refine z_iload (pc := 92) dX9_together_92 rfl ?_
      refine z_callV (pc := 94) (c_X6_lineOf s0 w0 hB ha2 (by omega) (by omega)) dX9_together_94 l_RX9_256 m_MX6_lineOf n_MX6_lineOf e_MX6_lineOf rfl (by omega) (by assumption) rfl rfl (Nat.le_of_ble_eq_true rfl) ?_
      rintro _ _ _ (⟨rfl, rfl, rfl⟩)
      have hzb : zline (fun k => S.n (16 + k)) a (3 * i + j) < 2147483648 := by
        have := b7 (3 * i + j) (by omega)
        unfold zline; dsimp only; split; omega; split <;> omega
      try dsimp only [zov, Option.toList, List.cons_append, List.nil_append]
      refine z_iload_n (pc := 97) dX9_together_97 rfl rfl ?_
      first | refine z_icmp_neN (pc := 98) (tgt := 119) (by with_reducible rfl) (by with_reducible rfl) dX9_together_98 (by decide) (by omega) (by omega) (fun hb98 => ?_) (fun hb98 => ?_) | refine z_icmp_ne (pc := 98) (tgt := 119) dX9_together_98 (by decide) (fun hb98 => ?_) (fun hb98 => ?_)
      · skip
        first | refine z_iincN (pc := 119) (c := 1) dX9_together_119 rfl (by with_reducible rfl) (by decide) (by decide) rfl ?_ | refine z_iinc (pc := 119) dX9_together_119 rfl rfl (by decide) rfl ?_
        try dsimp only [zst1, zst2, zk]
        refine z_goto (pc := 122) (tgt := 67) dX9_together_122 (by decide) ?_
        first
          | exact ih i (j + 1) _ (by omega) hi (by omega) (by rw [zl_in _ b2 _ b4 _ hi _ (by omega)] at hq; simp only [zlsum] at hq; rw [show zif (zP S.n a l) v (3 * i + j) = v (3 * i + j) from if_pos (decide_eq_true (by omega)), ← Nat.add_assoc] at hq; exact hq)
          | exact ih i (j + 1) _ (by omega) hi (by omega) (by rw [zl_in _ b2 _ b4 _ hi _ (by omega)] at hq; simp only [zlsum] at hq; rw [show zif (zP S.n a l) v (3 * i + j) = 0 from if_neg (fun q => by have := of_decide_eq_true q; omega), Nat.zero_add] at hq; exact hq)
          | exact ih (i + 1) 0 _ (by omega) (by omega) (by omega) (by obtain rfl : j = S.n 1 := (by omega); rw [zl_row _ b2 _ b4 _ hi] at hq; exact hq)
          | fail
      · skip
        refine z_iload_n (pc := 101) dX9_together_101 rfl rfl ?_
        refine z_aload_n (pc := 102) dX9_together_102 rfl rfl ?_
        refine z_getR (pc := 103) dX9_together_103 f_RX9_38 (by assumption) rfl ?_
        refine z_getR (pc := 106) dX9_together_106 f_RX9_253 (by assumption) rfl ?_
        refine z_iload (pc := 109) dX9_together_109 rfl ?_
        refine z_iload (pc := 111) dX9_together_111 rfl ?_
        refine z_callS (pc := 113) c_X9_place dX9_together_113 l_RX9_98 m_MX9_place s_MX9_place rfl (by omega) rfl (Nat.le_of_ble_eq_true rfl) ?_
        rintro _ _ _ (⟨rfl, rfl, rfl⟩)
        try dsimp only [zov, Option.toList, List.cons_append, List.nil_append]
        refine z_ialoadv (pc := 116) dX9_together_116 (by assumption) (by with_reducible rfl) (by omega) (by decide) (by first | assumption | exact (ha9 _ (by omega) (by omega) (by omega)).1 | rfl) ?_
        first | refine z_iaddN (pc := 117) (by with_reducible rfl) (by with_reducible rfl) dX9_together_117 ?_ | refine z_iadd (pc := 117) dX9_together_117 ?_
        refine z_istore_n (pc := 118) dX9_together_118 rfl (by decide) rfl ?_
        try dsimp only [zst1, zst2, zk]
        first | refine z_iincN (pc := 119) (c := 1) dX9_together_119 rfl (by with_reducible rfl) (by decide) (by decide) rfl ?_ | refine z_iinc (pc := 119) dX9_together_119 rfl rfl (by decide) rfl ?_
        try dsimp only [zst1, zst2, zk]
        refine z_goto (pc := 122) (tgt := 67) dX9_together_122 (by decide) ?_
        first
          | exact ih i (j + 1) _ (by omega) hi (by omega) (by rw [zl_in _ b2 _ b4 _ hi _ (by omega)] at hq; simp only [zlsum] at hq; rw [show zif (zP S.n a l) v (3 * i + j) = v (3 * i + j) from if_pos (decide_eq_true (by omega)), ← Nat.add_assoc] at hq; exact hq)
          | exact ih i (j + 1) _ (by omega) hi (by omega) (by rw [zl_in _ b2 _ b4 _ hi _ (by omega)] at hq; simp only [zlsum] at hq; rw [show zif (zP S.n a l) v (3 * i + j) = 0 from if_neg (fun q => by have := of_decide_eq_true q; omega), Nat.zero_add] at hq; exact hq)
          | exact ih (i + 1) 0 _ (by omega) (by omega) (by omega) (by obtain rfl : j = S.n 1 := (by omega); rw [zl_row _ b2 _ b4 _ hi] at hq; exact hq)
          | fail
set_option maxHeartbeats 2000000 in
set_option maxRecDepth 20000 in
theorem c_X9_together {lay : List zL} {I : zI} {J : zJ} {S : zS} (hC : kC lay) (hV : vC I J S) {w l : Int32} : zMet lay MX9_together 22 [.ref 0, .int w, .int l] I J (fun r I' J' => zPC I J (ftogether S w l) r I' J') := by
  refine zMet_of (t := MX9_together) (ls := [.ref 0, .int w, .int l, .null, .null, .null]) (by decide +kernel) (Nat.le_of_ble_eq_true rfl) rfl ?_
  obtain ⟨c0, ⟨cP, cG⟩, ⟨cX, cQ, cR⟩, ⟨cS, cB, cD⟩, cf1, cf2, cf3, cU⟩ := id hC
  have p0 : lay[1]? = some (.inl (2, [4, 8, 13, 16, 19])) := cP.1
  have s0 : kS lay 2 := cP.2.1
  obtain ⟨s1, s2, s3, s4⟩ := id s0
  have t0 : kT lay 6 := cP.2.2.1
  obtain ⟨t1, t2, t3, t4, t5⟩ := id t0
  have n5 : kN lay 11 5 := cP.2.2.2.1
  have n8 : kN lay 14 8 := cP.2.2.2.2.1
  have m8 : kN lay 17 8 := cP.2.2.2.2.2
  have w0 : vS I 2 S.n := hV.1.1.1
  have w1 : vT I J 6 S.n := hV.1.1.2.1
  have w5 : vN I 11 5 (S.n 4) (fun k => S.n (52 + k) / 100) (fun k => S.n (52 + k) % 100) := hV.1.1.2.2.1
  have w8 : vN I 14 8 (S.n 5) (fun k => S.n (57 + k) / 100) (fun k => S.n (57 + k) % 100) := hV.1.1.2.2.2.1
  have x8 : vN I 17 8 (S.n 6) (fun k => S.n (65 + k) / 100) (fun k => S.n (65 + k) % 100) := hV.1.1.2.2.2.2
  obtain ⟨v0, v1, v2, v3, v4, v5⟩ := id w0
  obtain ⟨y0, y1, y2⟩ := id w1
  have hb := hV.1.2
  have hB := hb.1
  have hT := hb.2.1
  obtain ⟨b1, b2, b3, b4, b5, b6, b7, b8⟩ := id hB
  have ox := cX.1
  have oq := cQ.1
  have ow := cR.1
  have od := cD.1
  have oe := cB.1
  have of1 := cS.1
  have of2 := cS.2.1
  have ou := cU.1
  have og := cG.1
  have on5 := n5.1
  have on8 := n8.1
  have om8 := m8.1
  have ov := cR.2.1.1
  have z1 := cf1
  have z2 := cf2
  have z3 := cf3
  unfold kF at z1 z2 z3
  refine z_aload_n (pc := 0) dX9_together_0 rfl rfl ?_
  refine z_getR (pc := 1) dX9_together_1 f_RX9_12 (by assumption) rfl ?_
  refine z_getR (pc := 4) dX9_together_4 f_RX9_83 (by assumption) rfl ?_
  refine z_iload_n (pc := 7) dX9_together_7 rfl rfl ?_
  refine z_iload_n (pc := 8) dX9_together_8 rfl rfl ?_
  refine z_callV (pc := 9) (c_X6_hasLine s0 w0 hB) dX9_together_9 l_RX9_112 m_MX6_hasLine n_MX6_hasLine e_MX6_hasLine rfl (by omega) (by assumption) rfl rfl (Nat.le_of_ble_eq_true rfl) ?_
  rintro _ _ _ ⟨⟨rfl, hc⟩ | ⟨rfl, hc⟩, rfl, rfl⟩
  · obtain ⟨a, b, rfl, rfl, ha, hbb⟩ := hc; have hz := zlines_le (w := a) b2 b4; have hk : 3 * a + b < 9 := (by omega)
    try dsimp only [zov, Option.toList, List.cons_append, List.nil_append]
    first | refine z_if_neN (pc := 12) (tgt := 17) (by with_reducible rfl) dX9_together_12 (by decide) (by omega) (fun hb12 => ?_) (fun hb12 => absurd hb12 (by decide)) | refine z_if_ne (pc := 12) (tgt := 17) dX9_together_12 (by decide) (fun hb12 => ?_) (fun hb12 => absurd hb12 (by decide))
    · skip
      refine z_aload_n (pc := 17) dX9_together_17 rfl rfl ?_
      refine z_getR (pc := 18) dX9_together_18 f_RX9_38 (by assumption) rfl ?_
      refine z_aload_n (pc := 21) dX9_together_21 rfl rfl ?_
      refine z_getR (pc := 22) dX9_together_22 f_RX9_12 (by assumption) rfl ?_
      refine z_getR (pc := 25) dX9_together_25 f_RX9_83 (by assumption) rfl ?_
      refine z_aload_n (pc := 28) dX9_together_28 rfl rfl ?_
      refine z_getR (pc := 29) dX9_together_29 f_RX9_12 (by assumption) rfl ?_
      refine z_getR (pc := 32) dX9_together_32 f_RX9_102 (by assumption) rfl ?_
      refine z_callV (pc := 35) (c_X4_isFound s0 w0 hB t0 w1 hT cR (by omega) (by omega)) dX9_together_35 l_RX9_250 m_MX4_isFound n_MX4_isFound e_MX4_isFound rfl (by omega) (by assumption) rfl rfl (Nat.le_of_ble_eq_true rfl) ?_
      rintro _ _ _ ⟨⟨rfl, v, hv, ha9⟩ | ⟨rfl, hv⟩, hi, hj⟩
      · skip
        try dsimp only [zov, Option.toList, List.cons_append, List.nil_append]
        first | refine z_if_neN (pc := 38) (tgt := 44) (by with_reducible rfl) dX9_together_38 (by decide) (by omega) (fun hb38 => ?_) (fun hb38 => absurd hb38 (by decide)) | refine z_if_ne (pc := 38) (tgt := 44) dX9_together_38 (by decide) (fun hb38 => ?_) (fun hb38 => absurd hb38 (by decide))
        · skip
          refine z_iconst (pc := 44) (v := nI 0) dX9_together_44 (by decide) ?_
          refine z_istore_n (pc := 45) dX9_together_45 rfl (by decide) rfl ?_
          try dsimp only [zst1, zst2, zk]
          refine z_iconst (pc := 46) (v := nI 0) dX9_together_46 (by decide) ?_
          refine z_istore (pc := 47) dX9_together_47 (by decide) rfl ?_
          try dsimp only [zst1, zst2, zk]
          refine z_iload (pc := 49) dX9_together_49 rfl ?_
          refine z_aload_n (pc := 51) dX9_together_51 rfl rfl ?_
          refine z_getR (pc := 52) dX9_together_52 f_RX9_12 (by assumption) rfl ?_
          refine z_getR (pc := 55) dX9_together_55 f_RX9_83 (by assumption) rfl ?_
          refine z_getIv (pc := 58) dX9_together_58 f_RX9_234 (by assumption) rfl (by first | assumption | exact v3 _ (by omega) | exact v4 _ (by omega) | exact v5 _ (by omega) | exact y0 _ (by omega) | exact y1 _ (by omega) | exact (congrFun (hi _ (by omega)) _).trans (by assumption) | rfl) ?_
          first | refine z_icmp_geN (pc := 61) (tgt := 131) (by with_reducible rfl) (by with_reducible rfl) dX9_together_61 (by decide) (by omega) (by omega) (fun hb61 => absurd hb61 (by omega)) (fun hb61 => ?_) | refine z_icmp_ge (pc := 61) (tgt := 131) dX9_together_61 (by decide) (fun hb61 => absurd hb61 (by omega)) (fun hb61 => ?_)
          · skip
            refine z_iconst (pc := 64) (v := nI 0) dX9_together_64 (by decide) ?_
            refine z_istore (pc := 65) dX9_together_65 (by decide) rfl ?_
            try dsimp only [zst1, zst2, zk]
            exact l_X9_together hC (vS_to w0 (hi _ (by omega)) (hi _ (by omega)) (hi _ (by omega)) (hi _ (by omega))) hB ha (by omega) ha9 100 0 0 0 (by omega) (by omega) (by omega) (zPC_keep hV (zkp_f hi) (zkp_g hj) (by rw [ftogether, zLn_y b2 b4 ha hbb]; dsimp only; rw [hv]; dsimp only; unfold ztg; rw [Nat.zero_add]))
      · skip
        try dsimp only [zov, Option.toList, List.cons_append, List.nil_append]
        first | refine z_if_neN (pc := 38) (tgt := 44) (by with_reducible rfl) dX9_together_38 (by decide) (by omega) (fun hb38 => absurd hb38 (by decide)) (fun hb38 => ?_) | refine z_if_ne (pc := 38) (tgt := 44) dX9_together_38 (by decide) (fun hb38 => absurd hb38 (by decide)) (fun hb38 => ?_)
        · skip
          refine z_bipush (pc := 41) (v := -6) dX9_together_41 (by decide) ?_
          refine z_iret (pc := 43) dX9_together_43 rfl ?_
          first
            | exact zPC_same hV (by rw [ftogether, zLn_n hc])
            | exact zPC_keep hV (zkp_f hi) (zkp_g hj) (by rw [ftogether, zLn_y b2 b4 ha hbb]; dsimp only; rw [hv])
            | fail
  · skip
    try dsimp only [zov, Option.toList, List.cons_append, List.nil_append]
    first | refine z_if_neN (pc := 12) (tgt := 17) (by with_reducible rfl) dX9_together_12 (by decide) (by omega) (fun hb12 => absurd hb12 (by decide)) (fun hb12 => ?_) | refine z_if_ne (pc := 12) (tgt := 17) dX9_together_12 (by decide) (fun hb12 => absurd hb12 (by decide)) (fun hb12 => ?_)
    · skip
      refine z_iconst (pc := 15) (v := -1) dX9_together_15 (by decide) ?_
      refine z_iret (pc := 16) dX9_together_16 rfl ?_
      first
        | exact zPC_same hV (by rw [ftogether, zLn_n hc])
        | exact zPC_keep hV (zkp_f hi) (zkp_g hj) (by rw [ftogether, zLn_y b2 b4 ha hbb]; dsimp only; rw [hv])
        | fail
/-- what is left of the orders, inside a cell -/
def zor (n : Nat → Nat) (i j a : Nat) (p : Nat × Nat) : Option (Nat × Nat) := match zo1 (n (7 + (3 * i + j)) + 1 - a) a p with
  | none => none
  | some q => zoa n (zl (n 0) (n 1) (3 * i + (j + 1))) q
theorem zor_n {n : Nat → Nat} {i j a : Nat} {p : Nat × Nat} (ha : a ≤ n (7 + (3 * i + j))) (h : 9223372036854775807 < p.1 / Nat.gcd a p.1 * ((p.2 + 1) / (a / Nat.gcd a p.1))) : zor n i j a p = none := by
  unfold zor
  obtain ⟨e, he⟩ : ∃ e, n (7 + (3 * i + j)) + 1 - a = e + 1 := ⟨n (7 + (3 * i + j)) - a, by omega⟩
  rw [he, zo1, if_neg (by omega)]
theorem zor_y {n : Nat → Nat} {i j a : Nat} {p : Nat × Nat} (ha : a ≤ n (7 + (3 * i + j))) (h : p.1 / Nat.gcd a p.1 * ((p.2 + 1) / (a / Nat.gcd a p.1)) ≤ 9223372036854775807) : zor n i j a p = zor n i j (a + 1) (p.1 / Nat.gcd a p.1 * ((p.2 + 1) / (a / Nat.gcd a p.1)), p.2 + 1) := by
  unfold zor
  obtain ⟨e, he⟩ : ∃ e, n (7 + (3 * i + j)) + 1 - a = e + 1 := ⟨n (7 + (3 * i + j)) - a, by omega⟩
  rw [he, zo1, if_pos h, show n (7 + (3 * i + j)) + 1 - (a + 1) = e by omega]
theorem zor_e {n : Nat → Nat} {i j a : Nat} {p : Nat × Nat} (ha : n (7 + (3 * i + j)) < a) : zor n i j a p = zoa n (zl (n 0) (n 1) (3 * i + (j + 1))) p := by
  unfold zor
  rw [show n (7 + (3 * i + j)) + 1 - a = 0 by omega]
  rfl
theorem zor_1 {n : Nat → Nat} {i j : Nat} {p : Nat × Nat} (b2 : n 0 ≤ 3) (b4 : n 1 ≤ 3) (hi : i < n 0) (hj : j < n 1) : zoa n (zl (n 0) (n 1) (3 * i + j)) p = zor n i j 1 p := by
  rw [zl_in _ b2 _ b4 _ hi _ hj]
  rfl
set_option maxHeartbeats 2000000 in
set_option maxRecDepth 20000 in
theorem l_X9_orders {lay : List zL} {Q : Value → zI → zJ → Prop} {S : zS} {d0 : Nat} {I : zI} {J : zJ} (hC : kC lay) (hV : vC I J S) : ∀ (m i j a : Nat) (p : Nat × Nat), 100 * (S.n 0 - i) + 30 * (S.n 1 - j) + (25 - a) < m → i < S.n 0 → j < S.n 1 → (1 ≤ a ∧ a ≤ S.n (7 + (3 * i + j)) + 1) → p.1 ≤ 9223372036854775807 → p.2 ≤ 20 * (3 * i + j) + (a - 1) → (∀ q, zor S.n i j a p = some q → Q (.long (lN q.1)) I J) → (zor S.n i j a p = none → Q (.long (-9223372036854775808)) I J) → Z lay MX9_orders (d0 + 2) 43 [.ref 0, .long (lN p.1), .null, .int (nI p.2), .int (nI i), .int (nI j), .int (nI a)] [] I J Q := by
  obtain ⟨c0, ⟨cP, cG⟩, ⟨cX, cQ, cR⟩, ⟨cS, cB, cD⟩, cf1, cf2, cf3, cU⟩ := id hC
  have p0 : lay[1]? = some (.inl (2, [4, 8, 13, 16, 19])) := cP.1
  have s0 : kS lay 2 := cP.2.1
  obtain ⟨s1, s2, s3, s4⟩ := id s0
  have t0 : kT lay 6 := cP.2.2.1
  obtain ⟨t1, t2, t3, t4, t5⟩ := id t0
  have n5 : kN lay 11 5 := cP.2.2.2.1
  have n8 : kN lay 14 8 := cP.2.2.2.2.1
  have m8 : kN lay 17 8 := cP.2.2.2.2.2
  have w0 : vS I 2 S.n := hV.1.1.1
  have w1 : vT I J 6 S.n := hV.1.1.2.1
  have w5 : vN I 11 5 (S.n 4) (fun k => S.n (52 + k) / 100) (fun k => S.n (52 + k) % 100) := hV.1.1.2.2.1
  have w8 : vN I 14 8 (S.n 5) (fun k => S.n (57 + k) / 100) (fun k => S.n (57 + k) % 100) := hV.1.1.2.2.2.1
  have x8 : vN I 17 8 (S.n 6) (fun k => S.n (65 + k) / 100) (fun k => S.n (65 + k) % 100) := hV.1.1.2.2.2.2
  obtain ⟨v0, v1, v2, v3, v4, v5⟩ := id w0
  obtain ⟨y0, y1, y2⟩ := id w1
  have hbN := hV.1.2
  have hB := hbN.1
  have hT := hbN.2.1
  obtain ⟨b1, b2, b3, b4, b5, b6, b7, b8⟩ := id hB
  have ox := cX.1
  have oq := cQ.1
  have ow := cR.1
  have od := cD.1
  have oe := cB.1
  have of1 := cS.1
  have of2 := cS.2.1
  have ou := cU.1
  have og := cG.1
  have on5 := n5.1
  have on8 := n8.1
  have om8 := m8.1
  have ov := cR.2.1.1
  have z1 := cf1
  have z2 := cf2
  have z3 := cf3
  unfold kF at z1 z2 z3
  intro m
  induction m with
  | zero => intro i j a p h; exact absurd h (by omega)
  | succ m ih =>
    intro i j a p hm hi hj ha hp1 hp2 hy hn
    have h20 := b6 (3 * i + j) (by omega)
    refine z_iload (pc := 43) dX9_orders_43 rfl ?_
    refine z_aload_n (pc := 45) dX9_orders_45 rfl rfl ?_
    refine z_getR (pc := 46) dX9_orders_46 f_RX9_12 (by assumption) rfl ?_
    refine z_getR (pc := 49) dX9_orders_49 f_RX9_83 (by assumption) rfl ?_
    refine z_getR (pc := 52) dX9_orders_52 f_RX9_94 (by assumption) rfl ?_
    refine z_iload (pc := 55) dX9_orders_55 rfl ?_
    refine z_iload (pc := 57) dX9_orders_57 rfl ?_
    refine z_callS (pc := 59) c_X9_place dX9_orders_59 l_RX9_98 m_MX9_place s_MX9_place rfl (by omega) rfl (Nat.le_of_ble_eq_true rfl) ?_
    rintro _ _ _ (⟨rfl, rfl, rfl⟩)
    try dsimp only [zov, Option.toList, List.cons_append, List.nil_append]
    refine z_ialoadv (pc := 62) dX9_orders_62 (by assumption) (by with_reducible rfl) (by omega) (by decide) (by first | assumption | exact v3 _ (by omega) | exact v4 _ (by omega) | exact v5 _ (by omega) | exact y0 _ (by omega) | exact y1 _ (by omega) | rfl) ?_
    first | refine z_icmp_gtN (pc := 63) (tgt := 97) (by with_reducible rfl) (by with_reducible rfl) dX9_orders_63 (by decide) (by omega) (by omega) (fun hb63 => ?_) (fun hb63 => ?_) | refine z_icmp_gt (pc := 63) (tgt := 97) dX9_orders_63 (by decide) (fun hb63 => ?_) (fun hb63 => ?_)
    · skip
      first | refine z_iincN (pc := 97) (c := 1) dX9_orders_97 rfl (by with_reducible rfl) (by decide) (by decide) rfl ?_ | refine z_iinc (pc := 97) dX9_orders_97 rfl rfl (by decide) rfl ?_
      try dsimp only [zst1, zst2, zk]
      refine z_goto (pc := 100) (tgt := 25) dX9_orders_100 (by decide) ?_
      refine z_iload (pc := 25) dX9_orders_25 rfl ?_
      refine z_aload_n (pc := 27) dX9_orders_27 rfl rfl ?_
      refine z_getR (pc := 28) dX9_orders_28 f_RX9_12 (by assumption) rfl ?_
      refine z_getR (pc := 31) dX9_orders_31 f_RX9_83 (by assumption) rfl ?_
      refine z_getIv (pc := 34) dX9_orders_34 f_RX9_237 (by assumption) rfl (by first | assumption | exact v3 _ (by omega) | exact v4 _ (by omega) | exact v5 _ (by omega) | exact y0 _ (by omega) | exact y1 _ (by omega) | rfl) ?_
      first | refine z_icmp_geN (pc := 37) (tgt := 103) (by with_reducible rfl) (by with_reducible rfl) dX9_orders_37 (by decide) (by omega) (by omega) (fun hb37 => ?_) (fun hb37 => ?_) | refine z_icmp_ge (pc := 37) (tgt := 103) dX9_orders_37 (by decide) (fun hb37 => ?_) (fun hb37 => ?_)
      · skip
        first | refine z_iincN (pc := 103) (c := 1) dX9_orders_103 rfl (by with_reducible rfl) (by decide) (by decide) rfl ?_ | refine z_iinc (pc := 103) dX9_orders_103 rfl rfl (by decide) rfl ?_
        try dsimp only [zst1, zst2, zk]
        refine z_goto (pc := 106) (tgt := 7) dX9_orders_106 (by decide) ?_
        refine z_iload (pc := 7) dX9_orders_7 rfl ?_
        refine z_aload_n (pc := 9) dX9_orders_9 rfl rfl ?_
        refine z_getR (pc := 10) dX9_orders_10 f_RX9_12 (by assumption) rfl ?_
        refine z_getR (pc := 13) dX9_orders_13 f_RX9_83 (by assumption) rfl ?_
        refine z_getIv (pc := 16) dX9_orders_16 f_RX9_234 (by assumption) rfl (by first | assumption | exact v3 _ (by omega) | exact v4 _ (by omega) | exact v5 _ (by omega) | exact y0 _ (by omega) | exact y1 _ (by omega) | rfl) ?_
        first | refine z_icmp_geN (pc := 19) (tgt := 109) (by with_reducible rfl) (by with_reducible rfl) dX9_orders_19 (by decide) (by omega) (by omega) (fun hb19 => ?_) (fun hb19 => ?_) | refine z_icmp_ge (pc := 19) (tgt := 109) dX9_orders_19 (by decide) (fun hb19 => ?_) (fun hb19 => ?_)
        · skip
          refine z_lload_n (pc := 109) dX9_orders_109 rfl rfl ?_
          refine z_lret (pc := 110) dX9_orders_110 rfl ?_
          first
            | exact hn (zor_n (by omega) hp)
            | exact absurd hb83 (lN_no (by omega))
            | (obtain h9 : j + 1 = S.n 1 := (by omega)
               obtain h8 : i + 1 = S.n 0 := (by omega)
               exact hy p (by rw [zor_e (by omega), h9, zl_row _ b2 _ b4 _ hi, h8, zl_end _ b2 _ b4]; rfl))
            | fail
        · skip
          refine z_iconst (pc := 22) (v := nI 0) dX9_orders_22 (by decide) ?_
          refine z_istore (pc := 23) dX9_orders_23 (by decide) rfl ?_
          try dsimp only [zst1, zst2, zk]
          refine z_iload (pc := 25) dX9_orders_25 rfl ?_
          refine z_aload_n (pc := 27) dX9_orders_27 rfl rfl ?_
          refine z_getR (pc := 28) dX9_orders_28 f_RX9_12 (by assumption) rfl ?_
          refine z_getR (pc := 31) dX9_orders_31 f_RX9_83 (by assumption) rfl ?_
          refine z_getIv (pc := 34) dX9_orders_34 f_RX9_237 (by assumption) rfl (by first | assumption | exact v3 _ (by omega) | exact v4 _ (by omega) | exact v5 _ (by omega) | exact y0 _ (by omega) | exact y1 _ (by omega) | rfl) ?_
          first | refine z_icmp_geN (pc := 37) (tgt := 103) (by with_reducible rfl) (by with_reducible rfl) dX9_orders_37 (by decide) (by omega) (by omega) (fun hb37 => absurd hb37 (by omega)) (fun hb37 => ?_) | refine z_icmp_ge (pc := 37) (tgt := 103) dX9_orders_37 (by decide) (fun hb37 => absurd hb37 (by omega)) (fun hb37 => ?_)
          · skip
            refine z_iconst (pc := 40) (v := nI 1) dX9_orders_40 (by decide) ?_
            refine z_istore (pc := 41) dX9_orders_41 (by decide) rfl ?_
            try dsimp only [zst1, zst2, zk]
            first
              | exact ih i j (a + 1) (_, p.2 + 1) (by omega) hi hj (by omega) hp (by show p.2 + 1 ≤ _; omega) (fun q hq => hy q (by rw [zor_y (by omega) hp]; exact hq)) (fun hq => hn (by rw [zor_y (by omega) hp]; exact hq))
              | exact ih i (j + 1) 1 p (by omega) hi (by omega) (by omega) hp1 (by omega) (fun q hq => hy q (by rw [zor_e (by omega), zor_1 b2 b4 hi (by omega)]; exact hq)) (fun hq => hn (by rw [zor_e (by omega), zor_1 b2 b4 hi (by omega)]; exact hq))
              | exact ih (i + 1) 0 1 p (by omega) (by omega) (by omega) (by omega) hp1 (by omega) (fun q hq => hy q (by obtain h9 : j + 1 = S.n 1 := (by omega); rw [zor_e (by omega), h9, zl_row _ b2 _ b4 _ hi, zor_1 b2 b4 (by omega) (by omega)]; exact hq)) (fun hq => hn (by obtain h9 : j + 1 = S.n 1 := (by omega); rw [zor_e (by omega), h9, zl_row _ b2 _ b4 _ hi, zor_1 b2 b4 (by omega) (by omega)]; exact hq))
              | exact absurd rfl hb83
              | fail
      · skip
        refine z_iconst (pc := 40) (v := nI 1) dX9_orders_40 (by decide) ?_
        refine z_istore (pc := 41) dX9_orders_41 (by decide) rfl ?_
        try dsimp only [zst1, zst2, zk]
        first
          | exact ih i j (a + 1) (_, p.2 + 1) (by omega) hi hj (by omega) hp (by show p.2 + 1 ≤ _; omega) (fun q hq => hy q (by rw [zor_y (by omega) hp]; exact hq)) (fun hq => hn (by rw [zor_y (by omega) hp]; exact hq))
          | exact ih i (j + 1) 1 p (by omega) hi (by omega) (by omega) hp1 (by omega) (fun q hq => hy q (by rw [zor_e (by omega), zor_1 b2 b4 hi (by omega)]; exact hq)) (fun hq => hn (by rw [zor_e (by omega), zor_1 b2 b4 hi (by omega)]; exact hq))
          | exact ih (i + 1) 0 1 p (by omega) (by omega) (by omega) (by omega) hp1 (by omega) (fun q hq => hy q (by obtain h9 : j + 1 = S.n 1 := (by omega); rw [zor_e (by omega), h9, zl_row _ b2 _ b4 _ hi, zor_1 b2 b4 (by omega) (by omega)]; exact hq)) (fun hq => hn (by obtain h9 : j + 1 = S.n 1 := (by omega); rw [zor_e (by omega), h9, zl_row _ b2 _ b4 _ hi, zor_1 b2 b4 (by omega) (by omega)]; exact hq))
          | exact absurd rfl hb83
          | fail
    · skip
      first | refine z_iincN (pc := 66) (c := 1) dX9_orders_66 rfl (by with_reducible rfl) (by decide) (by decide) rfl ?_ | refine z_iinc (pc := 66) dX9_orders_66 rfl rfl (by decide) rfl ?_
      try dsimp only [zst1, zst2, zk]
      refine z_lload_n (pc := 69) dX9_orders_69 rfl rfl ?_
      refine z_iload_n (pc := 70) dX9_orders_70 rfl rfl ?_
      first | refine z_i2lN (pc := 71) (by with_reducible rfl) dX9_orders_71 (by omega) ?_ | refine z_i2l (pc := 71) dX9_orders_71 rfl ?_
      refine z_iload (pc := 72) dX9_orders_72 rfl ?_
      first | refine z_i2lN (pc := 74) (by with_reducible rfl) dX9_orders_74 (by omega) ?_ | refine z_i2l (pc := 74) dX9_orders_74 rfl ?_
      refine z_callS (pc := 75) (c_X0_timesBy (by omega) (by omega) (by omega) (by omega)) dX9_orders_75 l_RX9_270 m_MX0_timesBy s_MX0_timesBy rfl (by omega) rfl (Nat.le_of_ble_eq_true rfl) ?_
      rintro _ _ _ ⟨⟨rfl, hp⟩ | ⟨rfl, hp⟩, rfl, rfl⟩
      · skip
        try dsimp only [zov, Option.toList, List.cons_append, List.nil_append]
        refine z_lstore_n (pc := 78) dX9_orders_78 rfl (by decide) rfl ?_
        try dsimp only [zst1, zst2, zk]
        refine z_lload_n (pc := 79) dX9_orders_79 rfl rfl ?_
        refine z_ldc2 (pc := 80) (v := -9223372036854775808) dX9_orders_80 q_RX9_190 ?_
        refine z_lc_ne (pc := 83) (tgt := 91) dX9_orders_83 rfl dX9_orders_84 (by decide) (fun hb83 => ?_) (fun hb83 => ?_)
        · skip
          first | refine z_iincN (pc := 91) (c := 1) dX9_orders_91 rfl (by with_reducible rfl) (by decide) (by decide) rfl ?_ | refine z_iinc (pc := 91) dX9_orders_91 rfl rfl (by decide) rfl ?_
          try dsimp only [zst1, zst2, zk]
          refine z_goto (pc := 94) (tgt := 43) dX9_orders_94 (by decide) ?_
          first
            | exact ih i j (a + 1) (_, p.2 + 1) (by omega) hi hj (by omega) hp (by show p.2 + 1 ≤ _; omega) (fun q hq => hy q (by rw [zor_y (by omega) hp]; exact hq)) (fun hq => hn (by rw [zor_y (by omega) hp]; exact hq))
            | exact ih i (j + 1) 1 p (by omega) hi (by omega) (by omega) hp1 (by omega) (fun q hq => hy q (by rw [zor_e (by omega), zor_1 b2 b4 hi (by omega)]; exact hq)) (fun hq => hn (by rw [zor_e (by omega), zor_1 b2 b4 hi (by omega)]; exact hq))
            | exact ih (i + 1) 0 1 p (by omega) (by omega) (by omega) (by omega) hp1 (by omega) (fun q hq => hy q (by obtain h9 : j + 1 = S.n 1 := (by omega); rw [zor_e (by omega), h9, zl_row _ b2 _ b4 _ hi, zor_1 b2 b4 (by omega) (by omega)]; exact hq)) (fun hq => hn (by obtain h9 : j + 1 = S.n 1 := (by omega); rw [zor_e (by omega), h9, zl_row _ b2 _ b4 _ hi, zor_1 b2 b4 (by omega) (by omega)]; exact hq))
            | exact absurd rfl hb83
            | fail
        · skip
          refine z_ldc2 (pc := 87) (v := -9223372036854775808) dX9_orders_87 q_RX9_190 ?_
          refine z_lret (pc := 90) dX9_orders_90 rfl ?_
          first
            | exact hn (zor_n (by omega) hp)
            | exact absurd hb83 (lN_no (by omega))
            | (obtain h9 : j + 1 = S.n 1 := (by omega)
               obtain h8 : i + 1 = S.n 0 := (by omega)
               exact hy p (by rw [zor_e (by omega), h9, zl_row _ b2 _ b4 _ hi, h8, zl_end _ b2 _ b4]; rfl))
            | fail
      · skip
        try dsimp only [zov, Option.toList, List.cons_append, List.nil_append]
        refine z_lstore_n (pc := 78) dX9_orders_78 rfl (by decide) rfl ?_
        try dsimp only [zst1, zst2, zk]
        refine z_lload_n (pc := 79) dX9_orders_79 rfl rfl ?_
        refine z_ldc2 (pc := 80) (v := -9223372036854775808) dX9_orders_80 q_RX9_190 ?_
        refine z_lc_ne (pc := 83) (tgt := 91) dX9_orders_83 rfl dX9_orders_84 (by decide) (fun hb83 => ?_) (fun hb83 => ?_)
        · skip
          first | refine z_iincN (pc := 91) (c := 1) dX9_orders_91 rfl (by with_reducible rfl) (by decide) (by decide) rfl ?_ | refine z_iinc (pc := 91) dX9_orders_91 rfl rfl (by decide) rfl ?_
          try dsimp only [zst1, zst2, zk]
          refine z_goto (pc := 94) (tgt := 43) dX9_orders_94 (by decide) ?_
          first
            | exact ih i j (a + 1) (_, p.2 + 1) (by omega) hi hj (by omega) hp (by show p.2 + 1 ≤ _; omega) (fun q hq => hy q (by rw [zor_y (by omega) hp]; exact hq)) (fun hq => hn (by rw [zor_y (by omega) hp]; exact hq))
            | exact ih i (j + 1) 1 p (by omega) hi (by omega) (by omega) hp1 (by omega) (fun q hq => hy q (by rw [zor_e (by omega), zor_1 b2 b4 hi (by omega)]; exact hq)) (fun hq => hn (by rw [zor_e (by omega), zor_1 b2 b4 hi (by omega)]; exact hq))
            | exact ih (i + 1) 0 1 p (by omega) (by omega) (by omega) (by omega) hp1 (by omega) (fun q hq => hy q (by obtain h9 : j + 1 = S.n 1 := (by omega); rw [zor_e (by omega), h9, zl_row _ b2 _ b4 _ hi, zor_1 b2 b4 (by omega) (by omega)]; exact hq)) (fun hq => hn (by obtain h9 : j + 1 = S.n 1 := (by omega); rw [zor_e (by omega), h9, zl_row _ b2 _ b4 _ hi, zor_1 b2 b4 (by omega) (by omega)]; exact hq))
            | exact absurd rfl hb83
            | fail
        · skip
          refine z_ldc2 (pc := 87) (v := -9223372036854775808) dX9_orders_87 q_RX9_190 ?_
          refine z_lret (pc := 90) dX9_orders_90 rfl ?_
          first
            | exact hn (zor_n (by omega) hp)
            | exact absurd hb83 (lN_no (by omega))
            | (obtain h9 : j + 1 = S.n 1 := (by omega)
               obtain h8 : i + 1 = S.n 0 := (by omega)
               exact hy p (by rw [zor_e (by omega), h9, zl_row _ b2 _ b4 _ hi, h8, zl_end _ b2 _ b4]; rfl))
            | fail
set_option maxHeartbeats 2000000 in
set_option maxRecDepth 20000 in
theorem c_X9_orders {lay : List zL} {I : zI} {J : zJ} {S : zS} (hC : kC lay) (hV : vC I J S) : zMet lay MX9_orders 3 [.ref 0] I J (fun r I' J' => zPC I J (forders S) r I' J') := by
  refine zMet_of (t := MX9_orders) (ls := [.ref 0, .null, .null, .null, .null, .null, .null]) (by decide +kernel) (Nat.le_of_ble_eq_true rfl) rfl ?_
  obtain ⟨c0, ⟨cP, cG⟩, ⟨cX, cQ, cR⟩, ⟨cS, cB, cD⟩, cf1, cf2, cf3, cU⟩ := id hC
  have p0 : lay[1]? = some (.inl (2, [4, 8, 13, 16, 19])) := cP.1
  have s0 : kS lay 2 := cP.2.1
  obtain ⟨s1, s2, s3, s4⟩ := id s0
  have t0 : kT lay 6 := cP.2.2.1
  obtain ⟨t1, t2, t3, t4, t5⟩ := id t0
  have n5 : kN lay 11 5 := cP.2.2.2.1
  have n8 : kN lay 14 8 := cP.2.2.2.2.1
  have m8 : kN lay 17 8 := cP.2.2.2.2.2
  have w0 : vS I 2 S.n := hV.1.1.1
  have w1 : vT I J 6 S.n := hV.1.1.2.1
  have w5 : vN I 11 5 (S.n 4) (fun k => S.n (52 + k) / 100) (fun k => S.n (52 + k) % 100) := hV.1.1.2.2.1
  have w8 : vN I 14 8 (S.n 5) (fun k => S.n (57 + k) / 100) (fun k => S.n (57 + k) % 100) := hV.1.1.2.2.2.1
  have x8 : vN I 17 8 (S.n 6) (fun k => S.n (65 + k) / 100) (fun k => S.n (65 + k) % 100) := hV.1.1.2.2.2.2
  obtain ⟨v0, v1, v2, v3, v4, v5⟩ := id w0
  obtain ⟨y0, y1, y2⟩ := id w1
  have hb := hV.1.2
  have hB := hb.1
  have hT := hb.2.1
  obtain ⟨b1, b2, b3, b4, b5, b6, b7, b8⟩ := id hB
  have ox := cX.1
  have oq := cQ.1
  have ow := cR.1
  have od := cD.1
  have oe := cB.1
  have of1 := cS.1
  have of2 := cS.2.1
  have ou := cU.1
  have og := cG.1
  have on5 := n5.1
  have on8 := n8.1
  have om8 := m8.1
  have ov := cR.2.1.1
  have z1 := cf1
  have z2 := cf2
  have z3 := cf3
  unfold kF at z1 z2 z3
  refine z_lconst (pc := 0) (v := lN 1) dX9_orders_0 rfl ?_
  refine z_lstore_n (pc := 1) dX9_orders_1 rfl (by decide) rfl ?_
  try dsimp only [zst1, zst2, zk]
  refine z_iconst (pc := 2) (v := nI 0) dX9_orders_2 (by decide) ?_
  refine z_istore_n (pc := 3) dX9_orders_3 rfl (by decide) rfl ?_
  try dsimp only [zst1, zst2, zk]
  refine z_iconst (pc := 4) (v := nI 0) dX9_orders_4 (by decide) ?_
  refine z_istore (pc := 5) dX9_orders_5 (by decide) rfl ?_
  try dsimp only [zst1, zst2, zk]
  refine z_iload (pc := 7) dX9_orders_7 rfl ?_
  refine z_aload_n (pc := 9) dX9_orders_9 rfl rfl ?_
  refine z_getR (pc := 10) dX9_orders_10 f_RX9_12 (by assumption) rfl ?_
  refine z_getR (pc := 13) dX9_orders_13 f_RX9_83 (by assumption) rfl ?_
  refine z_getIv (pc := 16) dX9_orders_16 f_RX9_234 (by assumption) rfl (by first | assumption | exact v3 _ (by omega) | exact v4 _ (by omega) | exact v5 _ (by omega) | exact y0 _ (by omega) | exact y1 _ (by omega) | rfl) ?_
  first | refine z_icmp_geN (pc := 19) (tgt := 109) (by with_reducible rfl) (by with_reducible rfl) dX9_orders_19 (by decide) (by omega) (by omega) (fun hb19 => absurd hb19 (by omega)) (fun hb19 => ?_) | refine z_icmp_ge (pc := 19) (tgt := 109) dX9_orders_19 (by decide) (fun hb19 => absurd hb19 (by omega)) (fun hb19 => ?_)
  · skip
    refine z_iconst (pc := 22) (v := nI 0) dX9_orders_22 (by decide) ?_
    refine z_istore (pc := 23) dX9_orders_23 (by decide) rfl ?_
    try dsimp only [zst1, zst2, zk]
    refine z_iload (pc := 25) dX9_orders_25 rfl ?_
    refine z_aload_n (pc := 27) dX9_orders_27 rfl rfl ?_
    refine z_getR (pc := 28) dX9_orders_28 f_RX9_12 (by assumption) rfl ?_
    refine z_getR (pc := 31) dX9_orders_31 f_RX9_83 (by assumption) rfl ?_
    refine z_getIv (pc := 34) dX9_orders_34 f_RX9_237 (by assumption) rfl (by first | assumption | exact v3 _ (by omega) | exact v4 _ (by omega) | exact v5 _ (by omega) | exact y0 _ (by omega) | exact y1 _ (by omega) | rfl) ?_
    first | refine z_icmp_geN (pc := 37) (tgt := 103) (by with_reducible rfl) (by with_reducible rfl) dX9_orders_37 (by decide) (by omega) (by omega) (fun hb37 => absurd hb37 (by omega)) (fun hb37 => ?_) | refine z_icmp_ge (pc := 37) (tgt := 103) dX9_orders_37 (by decide) (fun hb37 => absurd hb37 (by omega)) (fun hb37 => ?_)
    · skip
      refine z_iconst (pc := 40) (v := nI 1) dX9_orders_40 (by decide) ?_
      refine z_istore (pc := 41) dX9_orders_41 (by decide) rfl ?_
      try dsimp only [zst1, zst2, zk]
      exact l_X9_orders hC hV 1000 0 0 1 (1, 0) (by omega) (by omega) (by omega) (by omega) (by decide) (by decide) (fun q hq => zPC_same hV (by rw [forders, show (0 : Nat) = 3 * 0 + 0 from rfl, zor_1 b2 b4 (by omega) (by omega), hq])) (fun hq => zPC_same hV (by rw [forders, show (0 : Nat) = 3 * 0 + 0 from rfl, zor_1 b2 b4 (by omega) (by omega), hq]; rfl))
set_option maxHeartbeats 2000000 in
set_option maxRecDepth 20000 in
theorem l_X9_countAhead {lay : List zL} {Q : Value → zI → zJ → Prop} {S : zS} {d0 b : Nat} {I : zI} {J : zJ} (hC : kC lay) (hV : vC I J S) (hb9 : b < 9) : ∀ (m i j x : Nat) (w5 w6 : Value), 4 * (S.n 0 - i) + (S.n 1 - j) < m → i < S.n 0 → j ≤ S.n 1 → Q (.int (nI (x + zlsum (fun a => if zah S.n a b = true then 1 else 0) (zl (S.n 0) (S.n 1) (3 * i + j))))) I J → Z lay MX9_countAhead (d0 + 2) 21 [.ref 0, .int (nI b), .int (nI x), .int (nI i), .int (nI j), w5, w6] [] I J Q := by
  obtain ⟨c0, ⟨cP, cG⟩, ⟨cX, cQ, cR⟩, ⟨cS, cB, cD⟩, cf1, cf2, cf3, cU⟩ := id hC
  have p0 : lay[1]? = some (.inl (2, [4, 8, 13, 16, 19])) := cP.1
  have s0 : kS lay 2 := cP.2.1
  obtain ⟨s1, s2, s3, s4⟩ := id s0
  have t0 : kT lay 6 := cP.2.2.1
  obtain ⟨t1, t2, t3, t4, t5⟩ := id t0
  have n5 : kN lay 11 5 := cP.2.2.2.1
  have n8 : kN lay 14 8 := cP.2.2.2.2.1
  have m8 : kN lay 17 8 := cP.2.2.2.2.2
  have w0 : vS I 2 S.n := hV.1.1.1
  have w1 : vT I J 6 S.n := hV.1.1.2.1
  have w5 : vN I 11 5 (S.n 4) (fun k => S.n (52 + k) / 100) (fun k => S.n (52 + k) % 100) := hV.1.1.2.2.1
  have w8 : vN I 14 8 (S.n 5) (fun k => S.n (57 + k) / 100) (fun k => S.n (57 + k) % 100) := hV.1.1.2.2.2.1
  have x8 : vN I 17 8 (S.n 6) (fun k => S.n (65 + k) / 100) (fun k => S.n (65 + k) % 100) := hV.1.1.2.2.2.2
  obtain ⟨v0, v1, v2, v3, v4, v5⟩ := id w0
  obtain ⟨y0, y1, y2⟩ := id w1
  have hbN := hV.1.2
  have hB := hbN.1
  have hT := hbN.2.1
  obtain ⟨b1, b2, b3, b4, b5, b6, b7, b8⟩ := id hB
  have ox := cX.1
  have oq := cQ.1
  have ow := cR.1
  have od := cD.1
  have oe := cB.1
  have of1 := cS.1
  have of2 := cS.2.1
  have ou := cU.1
  have og := cG.1
  have on5 := n5.1
  have on8 := n8.1
  have om8 := m8.1
  have ov := cR.2.1.1
  have z1 := cf1
  have z2 := cf2
  have z3 := cf3
  unfold kF at z1 z2 z3
  intro m
  induction m with
  | zero => intro i j x w5 w6 h; exact absurd h (by omega)
  | succ m ih =>
    intro i j x w5 w6 hm hi hj hq
    have hs0 : ∀ k x' l, zah S.n k b = false → x' + zlsum (fun a => if zah S.n a b = true then 1 else 0) (k :: l) = x' + zlsum (fun a => if zah S.n a b = true then 1 else 0) l := by
      intro k x' l h
      simp only [zlsum]
      rw [h, if_neg (by decide), Nat.zero_add]
    have hs1 : ∀ k x' l, zah S.n k b = true → x' + zlsum (fun a => if zah S.n a b = true then 1 else 0) (k :: l) = x' + 1 + zlsum (fun a => if zah S.n a b = true then 1 else 0) l := by
      intro k x' l h
      simp only [zlsum]
      rw [h, if_pos rfl, Nat.add_assoc]
    refine z_iload (pc := 21) dX9_countAhead_21 rfl ?_
    refine z_aload_n (pc := 23) dX9_countAhead_23 rfl rfl ?_
    refine z_getR (pc := 24) dX9_countAhead_24 f_RX9_12 (by assumption) rfl ?_
    refine z_getR (pc := 27) dX9_countAhead_27 f_RX9_83 (by assumption) rfl ?_
    refine z_getIv (pc := 30) dX9_countAhead_30 f_RX9_237 (by assumption) rfl (by first | assumption | exact v3 _ (by omega) | exact v4 _ (by omega) | exact v5 _ (by omega) | exact y0 _ (by omega) | exact y1 _ (by omega) | rfl) ?_
    first | refine z_icmp_geN (pc := 33) (tgt := 84) (by with_reducible rfl) (by with_reducible rfl) dX9_countAhead_33 (by decide) (by omega) (by omega) (fun hb33 => ?_) (fun hb33 => ?_) | refine z_icmp_ge (pc := 33) (tgt := 84) dX9_countAhead_33 (by decide) (fun hb33 => ?_) (fun hb33 => ?_)
    · skip
      first | refine z_iincN (pc := 84) (c := 1) dX9_countAhead_84 rfl (by with_reducible rfl) (by decide) (by decide) rfl ?_ | refine z_iinc (pc := 84) dX9_countAhead_84 rfl rfl (by decide) rfl ?_
      try dsimp only [zst1, zst2, zk]
      refine z_goto (pc := 87) (tgt := 4) dX9_countAhead_87 (by decide) ?_
      refine z_iload_n (pc := 4) dX9_countAhead_4 rfl rfl ?_
      refine z_aload_n (pc := 5) dX9_countAhead_5 rfl rfl ?_
      refine z_getR (pc := 6) dX9_countAhead_6 f_RX9_12 (by assumption) rfl ?_
      refine z_getR (pc := 9) dX9_countAhead_9 f_RX9_83 (by assumption) rfl ?_
      refine z_getIv (pc := 12) dX9_countAhead_12 f_RX9_234 (by assumption) rfl (by first | assumption | exact v3 _ (by omega) | exact v4 _ (by omega) | exact v5 _ (by omega) | exact y0 _ (by omega) | exact y1 _ (by omega) | rfl) ?_
      first | refine z_icmp_geN (pc := 15) (tgt := 90) (by with_reducible rfl) (by with_reducible rfl) dX9_countAhead_15 (by decide) (by omega) (by omega) (fun hb15 => ?_) (fun hb15 => ?_) | refine z_icmp_ge (pc := 15) (tgt := 90) dX9_countAhead_15 (by decide) (fun hb15 => ?_) (fun hb15 => ?_)
      · skip
        refine z_iload_n (pc := 90) dX9_countAhead_90 rfl rfl ?_
        refine z_iret (pc := 91) dX9_countAhead_91 rfl ?_
        obtain rfl : j = S.n 1 := (by omega); obtain h9 : i + 1 = S.n 0 := (by omega); rw [zl_row _ b2 _ b4 _ hi, h9, zl_end _ b2 _ b4] at hq; exact hq
      · skip
        refine z_iconst (pc := 18) (v := nI 0) dX9_countAhead_18 (by decide) ?_
        refine z_istore (pc := 19) dX9_countAhead_19 (by decide) rfl ?_
        try dsimp only [zst1, zst2, zk]
        first
          | exact ih i (j + 1) _ _ _ (by omega) hi (by omega) (by rw [zl_in _ b2 _ b4 _ hi _ (by omega), hs0 _ _ _ (decide_eq_false (by omega))] at hq; exact hq)
          | exact ih i (j + 1) _ _ _ (by omega) hi (by omega) (by rw [zl_in _ b2 _ b4 _ hi _ (by omega), hs1 _ _ _ (decide_eq_true (by omega))] at hq; exact hq)
          | exact ih (i + 1) 0 _ _ _ (by omega) (by omega) (by omega) (by obtain rfl : j = S.n 1 := (by omega); rw [zl_row _ b2 _ b4 _ hi] at hq; exact hq)
          | exact absurd hb61 (by decide)
          | exact absurd hb66 (by decide)
          | fail
    · skip
      refine z_iload_n (pc := 36) dX9_countAhead_36 rfl rfl ?_
      refine z_iload (pc := 37) dX9_countAhead_37 rfl ?_
      refine z_callS (pc := 39) c_X9_place dX9_countAhead_39 l_RX9_98 m_MX9_place s_MX9_place rfl (by omega) rfl (Nat.le_of_ble_eq_true rfl) ?_
      rintro _ _ _ (⟨rfl, rfl, rfl⟩)
      try dsimp only [zov, Option.toList, List.cons_append, List.nil_append]
      refine z_istore (pc := 42) dX9_countAhead_42 (by decide) rfl ?_
      try dsimp only [zst1, zst2, zk]
      refine z_aload_n (pc := 44) dX9_countAhead_44 rfl rfl ?_
      refine z_getR (pc := 45) dX9_countAhead_45 f_RX9_12 (by assumption) rfl ?_
      refine z_getR (pc := 48) dX9_countAhead_48 f_RX9_102 (by assumption) rfl ?_
      refine z_iload (pc := 51) dX9_countAhead_51 rfl ?_
      refine z_iload_n (pc := 53) dX9_countAhead_53 rfl rfl ?_
      refine z_callV (pc := 54) (c_X7_compare t0 w1 hT (by omega) hb9) dX9_countAhead_54 l_RX9_277 m_MX7_compare n_MX7_compare e_MX7_compare rfl (by omega) (by assumption) rfl rfl (Nat.le_of_ble_eq_true rfl) ?_
      rintro _ _ _ ⟨⟨rfl, hcm⟩ | ⟨rfl, hcm⟩ | ⟨rfl, hcm⟩, rfl, rfl⟩
      · skip
        try dsimp only [zov, Option.toList, List.cons_append, List.nil_append]
        refine z_istore (pc := 57) dX9_countAhead_57 (by decide) rfl ?_
        try dsimp only [zst1, zst2, zk]
        refine z_iload (pc := 59) dX9_countAhead_59 rfl ?_
        refine z_if_gt (pc := 61) (tgt := 75) dX9_countAhead_61 (by decide) (fun hb61 => ?_) (fun hb61 => ?_)
        · skip
          first | refine z_iincN (pc := 75) (c := 1) dX9_countAhead_75 rfl (by with_reducible rfl) (by decide) (by decide) rfl ?_ | refine z_iinc (pc := 75) dX9_countAhead_75 rfl rfl (by decide) rfl ?_
          try dsimp only [zst1, zst2, zk]
          first | refine z_iincN (pc := 78) (c := 1) dX9_countAhead_78 rfl (by with_reducible rfl) (by decide) (by decide) rfl ?_ | refine z_iinc (pc := 78) dX9_countAhead_78 rfl rfl (by decide) rfl ?_
          try dsimp only [zst1, zst2, zk]
          refine z_goto (pc := 81) (tgt := 21) dX9_countAhead_81 (by decide) ?_
          first
            | exact ih i (j + 1) _ _ _ (by omega) hi (by omega) (by rw [zl_in _ b2 _ b4 _ hi _ (by omega), hs0 _ _ _ (decide_eq_false (by omega))] at hq; exact hq)
            | exact ih i (j + 1) _ _ _ (by omega) hi (by omega) (by rw [zl_in _ b2 _ b4 _ hi _ (by omega), hs1 _ _ _ (decide_eq_true (by omega))] at hq; exact hq)
            | exact ih (i + 1) 0 _ _ _ (by omega) (by omega) (by omega) (by obtain rfl : j = S.n 1 := (by omega); rw [zl_row _ b2 _ b4 _ hi] at hq; exact hq)
            | exact absurd hb61 (by decide)
            | exact absurd hb66 (by decide)
            | fail
        · skip
          refine z_iload (pc := 64) dX9_countAhead_64 rfl ?_
          refine z_if_ne (pc := 66) (tgt := 78) dX9_countAhead_66 (by decide) (fun hb66 => ?_) (fun hb66 => ?_)
          · skip
            first | refine z_iincN (pc := 78) (c := 1) dX9_countAhead_78 rfl (by with_reducible rfl) (by decide) (by decide) rfl ?_ | refine z_iinc (pc := 78) dX9_countAhead_78 rfl rfl (by decide) rfl ?_
            try dsimp only [zst1, zst2, zk]
            refine z_goto (pc := 81) (tgt := 21) dX9_countAhead_81 (by decide) ?_
            first
              | exact ih i (j + 1) _ _ _ (by omega) hi (by omega) (by rw [zl_in _ b2 _ b4 _ hi _ (by omega), hs0 _ _ _ (decide_eq_false (by omega))] at hq; exact hq)
              | exact ih i (j + 1) _ _ _ (by omega) hi (by omega) (by rw [zl_in _ b2 _ b4 _ hi _ (by omega), hs1 _ _ _ (decide_eq_true (by omega))] at hq; exact hq)
              | exact ih (i + 1) 0 _ _ _ (by omega) (by omega) (by omega) (by obtain rfl : j = S.n 1 := (by omega); rw [zl_row _ b2 _ b4 _ hi] at hq; exact hq)
              | exact absurd hb61 (by decide)
              | exact absurd hb66 (by decide)
              | fail
          · skip
            refine z_iload (pc := 69) dX9_countAhead_69 rfl ?_
            refine z_iload_n (pc := 71) dX9_countAhead_71 rfl rfl ?_
            first | refine z_icmp_geN (pc := 72) (tgt := 78) (by with_reducible rfl) (by with_reducible rfl) dX9_countAhead_72 (by decide) (by omega) (by omega) (fun hb72 => ?_) (fun hb72 => ?_) | refine z_icmp_ge (pc := 72) (tgt := 78) dX9_countAhead_72 (by decide) (fun hb72 => ?_) (fun hb72 => ?_)
            · skip
              first | refine z_iincN (pc := 78) (c := 1) dX9_countAhead_78 rfl (by with_reducible rfl) (by decide) (by decide) rfl ?_ | refine z_iinc (pc := 78) dX9_countAhead_78 rfl rfl (by decide) rfl ?_
              try dsimp only [zst1, zst2, zk]
              refine z_goto (pc := 81) (tgt := 21) dX9_countAhead_81 (by decide) ?_
              first
                | exact ih i (j + 1) _ _ _ (by omega) hi (by omega) (by rw [zl_in _ b2 _ b4 _ hi _ (by omega), hs0 _ _ _ (decide_eq_false (by omega))] at hq; exact hq)
                | exact ih i (j + 1) _ _ _ (by omega) hi (by omega) (by rw [zl_in _ b2 _ b4 _ hi _ (by omega), hs1 _ _ _ (decide_eq_true (by omega))] at hq; exact hq)
                | exact ih (i + 1) 0 _ _ _ (by omega) (by omega) (by omega) (by obtain rfl : j = S.n 1 := (by omega); rw [zl_row _ b2 _ b4 _ hi] at hq; exact hq)
                | exact absurd hb61 (by decide)
                | exact absurd hb66 (by decide)
                | fail
            · skip
              first | refine z_iincN (pc := 75) (c := 1) dX9_countAhead_75 rfl (by with_reducible rfl) (by decide) (by decide) rfl ?_ | refine z_iinc (pc := 75) dX9_countAhead_75 rfl rfl (by decide) rfl ?_
              try dsimp only [zst1, zst2, zk]
              first | refine z_iincN (pc := 78) (c := 1) dX9_countAhead_78 rfl (by with_reducible rfl) (by decide) (by decide) rfl ?_ | refine z_iinc (pc := 78) dX9_countAhead_78 rfl rfl (by decide) rfl ?_
              try dsimp only [zst1, zst2, zk]
              refine z_goto (pc := 81) (tgt := 21) dX9_countAhead_81 (by decide) ?_
              first
                | exact ih i (j + 1) _ _ _ (by omega) hi (by omega) (by rw [zl_in _ b2 _ b4 _ hi _ (by omega), hs0 _ _ _ (decide_eq_false (by omega))] at hq; exact hq)
                | exact ih i (j + 1) _ _ _ (by omega) hi (by omega) (by rw [zl_in _ b2 _ b4 _ hi _ (by omega), hs1 _ _ _ (decide_eq_true (by omega))] at hq; exact hq)
                | exact ih (i + 1) 0 _ _ _ (by omega) (by omega) (by omega) (by obtain rfl : j = S.n 1 := (by omega); rw [zl_row _ b2 _ b4 _ hi] at hq; exact hq)
                | exact absurd hb61 (by decide)
                | exact absurd hb66 (by decide)
                | fail
      · skip
        try dsimp only [zov, Option.toList, List.cons_append, List.nil_append]
        refine z_istore (pc := 57) dX9_countAhead_57 (by decide) rfl ?_
        try dsimp only [zst1, zst2, zk]
        refine z_iload (pc := 59) dX9_countAhead_59 rfl ?_
        refine z_if_gt (pc := 61) (tgt := 75) dX9_countAhead_61 (by decide) (fun hb61 => ?_) (fun hb61 => ?_)
        · skip
          first | refine z_iincN (pc := 75) (c := 1) dX9_countAhead_75 rfl (by with_reducible rfl) (by decide) (by decide) rfl ?_ | refine z_iinc (pc := 75) dX9_countAhead_75 rfl rfl (by decide) rfl ?_
          try dsimp only [zst1, zst2, zk]
          first | refine z_iincN (pc := 78) (c := 1) dX9_countAhead_78 rfl (by with_reducible rfl) (by decide) (by decide) rfl ?_ | refine z_iinc (pc := 78) dX9_countAhead_78 rfl rfl (by decide) rfl ?_
          try dsimp only [zst1, zst2, zk]
          refine z_goto (pc := 81) (tgt := 21) dX9_countAhead_81 (by decide) ?_
          first
            | exact ih i (j + 1) _ _ _ (by omega) hi (by omega) (by rw [zl_in _ b2 _ b4 _ hi _ (by omega), hs0 _ _ _ (decide_eq_false (by omega))] at hq; exact hq)
            | exact ih i (j + 1) _ _ _ (by omega) hi (by omega) (by rw [zl_in _ b2 _ b4 _ hi _ (by omega), hs1 _ _ _ (decide_eq_true (by omega))] at hq; exact hq)
            | exact ih (i + 1) 0 _ _ _ (by omega) (by omega) (by omega) (by obtain rfl : j = S.n 1 := (by omega); rw [zl_row _ b2 _ b4 _ hi] at hq; exact hq)
            | exact absurd hb61 (by decide)
            | exact absurd hb66 (by decide)
            | fail
        · skip
          refine z_iload (pc := 64) dX9_countAhead_64 rfl ?_
          refine z_if_ne (pc := 66) (tgt := 78) dX9_countAhead_66 (by decide) (fun hb66 => ?_) (fun hb66 => ?_)
          · skip
            first | refine z_iincN (pc := 78) (c := 1) dX9_countAhead_78 rfl (by with_reducible rfl) (by decide) (by decide) rfl ?_ | refine z_iinc (pc := 78) dX9_countAhead_78 rfl rfl (by decide) rfl ?_
            try dsimp only [zst1, zst2, zk]
            refine z_goto (pc := 81) (tgt := 21) dX9_countAhead_81 (by decide) ?_
            first
              | exact ih i (j + 1) _ _ _ (by omega) hi (by omega) (by rw [zl_in _ b2 _ b4 _ hi _ (by omega), hs0 _ _ _ (decide_eq_false (by omega))] at hq; exact hq)
              | exact ih i (j + 1) _ _ _ (by omega) hi (by omega) (by rw [zl_in _ b2 _ b4 _ hi _ (by omega), hs1 _ _ _ (decide_eq_true (by omega))] at hq; exact hq)
              | exact ih (i + 1) 0 _ _ _ (by omega) (by omega) (by omega) (by obtain rfl : j = S.n 1 := (by omega); rw [zl_row _ b2 _ b4 _ hi] at hq; exact hq)
              | exact absurd hb61 (by decide)
              | exact absurd hb66 (by decide)
              | fail
          · skip
            refine z_iload (pc := 69) dX9_countAhead_69 rfl ?_
            refine z_iload_n (pc := 71) dX9_countAhead_71 rfl rfl ?_
            first | refine z_icmp_geN (pc := 72) (tgt := 78) (by with_reducible rfl) (by with_reducible rfl) dX9_countAhead_72 (by decide) (by omega) (by omega) (fun hb72 => ?_) (fun hb72 => ?_) | refine z_icmp_ge (pc := 72) (tgt := 78) dX9_countAhead_72 (by decide) (fun hb72 => ?_) (fun hb72 => ?_)
            · skip
              first | refine z_iincN (pc := 78) (c := 1) dX9_countAhead_78 rfl (by with_reducible rfl) (by decide) (by decide) rfl ?_ | refine z_iinc (pc := 78) dX9_countAhead_78 rfl rfl (by decide) rfl ?_
              try dsimp only [zst1, zst2, zk]
              refine z_goto (pc := 81) (tgt := 21) dX9_countAhead_81 (by decide) ?_
              first
                | exact ih i (j + 1) _ _ _ (by omega) hi (by omega) (by rw [zl_in _ b2 _ b4 _ hi _ (by omega), hs0 _ _ _ (decide_eq_false (by omega))] at hq; exact hq)
                | exact ih i (j + 1) _ _ _ (by omega) hi (by omega) (by rw [zl_in _ b2 _ b4 _ hi _ (by omega), hs1 _ _ _ (decide_eq_true (by omega))] at hq; exact hq)
                | exact ih (i + 1) 0 _ _ _ (by omega) (by omega) (by omega) (by obtain rfl : j = S.n 1 := (by omega); rw [zl_row _ b2 _ b4 _ hi] at hq; exact hq)
                | exact absurd hb61 (by decide)
                | exact absurd hb66 (by decide)
                | fail
            · skip
              first | refine z_iincN (pc := 75) (c := 1) dX9_countAhead_75 rfl (by with_reducible rfl) (by decide) (by decide) rfl ?_ | refine z_iinc (pc := 75) dX9_countAhead_75 rfl rfl (by decide) rfl ?_
              try dsimp only [zst1, zst2, zk]
              first | refine z_iincN (pc := 78) (c := 1) dX9_countAhead_78 rfl (by with_reducible rfl) (by decide) (by decide) rfl ?_ | refine z_iinc (pc := 78) dX9_countAhead_78 rfl rfl (by decide) rfl ?_
              try dsimp only [zst1, zst2, zk]
              refine z_goto (pc := 81) (tgt := 21) dX9_countAhead_81 (by decide) ?_
              first
                | exact ih i (j + 1) _ _ _ (by omega) hi (by omega) (by rw [zl_in _ b2 _ b4 _ hi _ (by omega), hs0 _ _ _ (decide_eq_false (by omega))] at hq; exact hq)
                | exact ih i (j + 1) _ _ _ (by omega) hi (by omega) (by rw [zl_in _ b2 _ b4 _ hi _ (by omega), hs1 _ _ _ (decide_eq_true (by omega))] at hq; exact hq)
                | exact ih (i + 1) 0 _ _ _ (by omega) (by omega) (by omega) (by obtain rfl : j = S.n 1 := (by omega); rw [zl_row _ b2 _ b4 _ hi] at hq; exact hq)
                | exact absurd hb61 (by decide)
                | exact absurd hb66 (by decide)
                | fail
      · skip
        try dsimp only [zov, Option.toList, List.cons_append, List.nil_append]
        refine z_istore (pc := 57) dX9_countAhead_57 (by decide) rfl ?_
        try dsimp only [zst1, zst2, zk]
        refine z_iload (pc := 59) dX9_countAhead_59 rfl ?_
        refine z_if_gt (pc := 61) (tgt := 75) dX9_countAhead_61 (by decide) (fun hb61 => ?_) (fun hb61 => ?_)
        · skip
          first | refine z_iincN (pc := 75) (c := 1) dX9_countAhead_75 rfl (by with_reducible rfl) (by decide) (by decide) rfl ?_ | refine z_iinc (pc := 75) dX9_countAhead_75 rfl rfl (by decide) rfl ?_
          try dsimp only [zst1, zst2, zk]
          first | refine z_iincN (pc := 78) (c := 1) dX9_countAhead_78 rfl (by with_reducible rfl) (by decide) (by decide) rfl ?_ | refine z_iinc (pc := 78) dX9_countAhead_78 rfl rfl (by decide) rfl ?_
          try dsimp only [zst1, zst2, zk]
          refine z_goto (pc := 81) (tgt := 21) dX9_countAhead_81 (by decide) ?_
          first
            | exact ih i (j + 1) _ _ _ (by omega) hi (by omega) (by rw [zl_in _ b2 _ b4 _ hi _ (by omega), hs0 _ _ _ (decide_eq_false (by omega))] at hq; exact hq)
            | exact ih i (j + 1) _ _ _ (by omega) hi (by omega) (by rw [zl_in _ b2 _ b4 _ hi _ (by omega), hs1 _ _ _ (decide_eq_true (by omega))] at hq; exact hq)
            | exact ih (i + 1) 0 _ _ _ (by omega) (by omega) (by omega) (by obtain rfl : j = S.n 1 := (by omega); rw [zl_row _ b2 _ b4 _ hi] at hq; exact hq)
            | exact absurd hb61 (by decide)
            | exact absurd hb66 (by decide)
            | fail
        · skip
          refine z_iload (pc := 64) dX9_countAhead_64 rfl ?_
          refine z_if_ne (pc := 66) (tgt := 78) dX9_countAhead_66 (by decide) (fun hb66 => ?_) (fun hb66 => ?_)
          · skip
            first | refine z_iincN (pc := 78) (c := 1) dX9_countAhead_78 rfl (by with_reducible rfl) (by decide) (by decide) rfl ?_ | refine z_iinc (pc := 78) dX9_countAhead_78 rfl rfl (by decide) rfl ?_
            try dsimp only [zst1, zst2, zk]
            refine z_goto (pc := 81) (tgt := 21) dX9_countAhead_81 (by decide) ?_
            first
              | exact ih i (j + 1) _ _ _ (by omega) hi (by omega) (by rw [zl_in _ b2 _ b4 _ hi _ (by omega), hs0 _ _ _ (decide_eq_false (by omega))] at hq; exact hq)
              | exact ih i (j + 1) _ _ _ (by omega) hi (by omega) (by rw [zl_in _ b2 _ b4 _ hi _ (by omega), hs1 _ _ _ (decide_eq_true (by omega))] at hq; exact hq)
              | exact ih (i + 1) 0 _ _ _ (by omega) (by omega) (by omega) (by obtain rfl : j = S.n 1 := (by omega); rw [zl_row _ b2 _ b4 _ hi] at hq; exact hq)
              | exact absurd hb61 (by decide)
              | exact absurd hb66 (by decide)
              | fail
          · skip
            refine z_iload (pc := 69) dX9_countAhead_69 rfl ?_
            refine z_iload_n (pc := 71) dX9_countAhead_71 rfl rfl ?_
            first | refine z_icmp_geN (pc := 72) (tgt := 78) (by with_reducible rfl) (by with_reducible rfl) dX9_countAhead_72 (by decide) (by omega) (by omega) (fun hb72 => ?_) (fun hb72 => ?_) | refine z_icmp_ge (pc := 72) (tgt := 78) dX9_countAhead_72 (by decide) (fun hb72 => ?_) (fun hb72 => ?_)
            · skip
              first | refine z_iincN (pc := 78) (c := 1) dX9_countAhead_78 rfl (by with_reducible rfl) (by decide) (by decide) rfl ?_ | refine z_iinc (pc := 78) dX9_countAhead_78 rfl rfl (by decide) rfl ?_
              try dsimp only [zst1, zst2, zk]
              refine z_goto (pc := 81) (tgt := 21) dX9_countAhead_81 (by decide) ?_
              first
                | exact ih i (j + 1) _ _ _ (by omega) hi (by omega) (by rw [zl_in _ b2 _ b4 _ hi _ (by omega), hs0 _ _ _ (decide_eq_false (by omega))] at hq; exact hq)
                | exact ih i (j + 1) _ _ _ (by omega) hi (by omega) (by rw [zl_in _ b2 _ b4 _ hi _ (by omega), hs1 _ _ _ (decide_eq_true (by omega))] at hq; exact hq)
                | exact ih (i + 1) 0 _ _ _ (by omega) (by omega) (by omega) (by obtain rfl : j = S.n 1 := (by omega); rw [zl_row _ b2 _ b4 _ hi] at hq; exact hq)
                | exact absurd hb61 (by decide)
                | exact absurd hb66 (by decide)
                | fail
            · skip
              first | refine z_iincN (pc := 75) (c := 1) dX9_countAhead_75 rfl (by with_reducible rfl) (by decide) (by decide) rfl ?_ | refine z_iinc (pc := 75) dX9_countAhead_75 rfl rfl (by decide) rfl ?_
              try dsimp only [zst1, zst2, zk]
              first | refine z_iincN (pc := 78) (c := 1) dX9_countAhead_78 rfl (by with_reducible rfl) (by decide) (by decide) rfl ?_ | refine z_iinc (pc := 78) dX9_countAhead_78 rfl rfl (by decide) rfl ?_
              try dsimp only [zst1, zst2, zk]
              refine z_goto (pc := 81) (tgt := 21) dX9_countAhead_81 (by decide) ?_
              first
                | exact ih i (j + 1) _ _ _ (by omega) hi (by omega) (by rw [zl_in _ b2 _ b4 _ hi _ (by omega), hs0 _ _ _ (decide_eq_false (by omega))] at hq; exact hq)
                | exact ih i (j + 1) _ _ _ (by omega) hi (by omega) (by rw [zl_in _ b2 _ b4 _ hi _ (by omega), hs1 _ _ _ (decide_eq_true (by omega))] at hq; exact hq)
                | exact ih (i + 1) 0 _ _ _ (by omega) (by omega) (by omega) (by obtain rfl : j = S.n 1 := (by omega); rw [zl_row _ b2 _ b4 _ hi] at hq; exact hq)
                | exact absurd hb61 (by decide)
                | exact absurd hb66 (by decide)
                | fail
set_option maxHeartbeats 2000000 in
set_option maxRecDepth 20000 in
theorem c_X9_countAhead {lay : List zL} {I : zI} {J : zJ} {S : zS} (hC : kC lay) (hV : vC I J S) {b : Nat} (hb9 : b < 9) : zMet lay MX9_countAhead 2 [.ref 0, .int (nI b)] I J (fun r I' J' => r = .int (nI (zca S.n b)) ∧ I = I' ∧ J = J') := by
  refine zMet_of (t := MX9_countAhead) (ls := [.ref 0, .int (nI b), .null, .null, .null, .null, .null]) (by decide +kernel) (Nat.le_of_ble_eq_true rfl) rfl ?_
  obtain ⟨c0, ⟨cP, cG⟩, ⟨cX, cQ, cR⟩, ⟨cS, cB, cD⟩, cf1, cf2, cf3, cU⟩ := id hC
  have p0 : lay[1]? = some (.inl (2, [4, 8, 13, 16, 19])) := cP.1
  have s0 : kS lay 2 := cP.2.1
  obtain ⟨s1, s2, s3, s4⟩ := id s0
  have t0 : kT lay 6 := cP.2.2.1
  obtain ⟨t1, t2, t3, t4, t5⟩ := id t0
  have n5 : kN lay 11 5 := cP.2.2.2.1
  have n8 : kN lay 14 8 := cP.2.2.2.2.1
  have m8 : kN lay 17 8 := cP.2.2.2.2.2
  have w0 : vS I 2 S.n := hV.1.1.1
  have w1 : vT I J 6 S.n := hV.1.1.2.1
  have w5 : vN I 11 5 (S.n 4) (fun k => S.n (52 + k) / 100) (fun k => S.n (52 + k) % 100) := hV.1.1.2.2.1
  have w8 : vN I 14 8 (S.n 5) (fun k => S.n (57 + k) / 100) (fun k => S.n (57 + k) % 100) := hV.1.1.2.2.2.1
  have x8 : vN I 17 8 (S.n 6) (fun k => S.n (65 + k) / 100) (fun k => S.n (65 + k) % 100) := hV.1.1.2.2.2.2
  obtain ⟨v0, v1, v2, v3, v4, v5⟩ := id w0
  obtain ⟨y0, y1, y2⟩ := id w1
  have hbN := hV.1.2
  have hB := hbN.1
  have hT := hbN.2.1
  obtain ⟨b1, b2, b3, b4, b5, b6, b7, b8⟩ := id hB
  have ox := cX.1
  have oq := cQ.1
  have ow := cR.1
  have od := cD.1
  have oe := cB.1
  have of1 := cS.1
  have of2 := cS.2.1
  have ou := cU.1
  have og := cG.1
  have on5 := n5.1
  have on8 := n8.1
  have om8 := m8.1
  have ov := cR.2.1.1
  have z1 := cf1
  have z2 := cf2
  have z3 := cf3
  unfold kF at z1 z2 z3
  refine z_iconst (pc := 0) (v := nI 0) dX9_countAhead_0 (by decide) ?_
  refine z_istore_n (pc := 1) dX9_countAhead_1 rfl (by decide) rfl ?_
  try dsimp only [zst1, zst2, zk]
  refine z_iconst (pc := 2) (v := nI 0) dX9_countAhead_2 (by decide) ?_
  refine z_istore_n (pc := 3) dX9_countAhead_3 rfl (by decide) rfl ?_
  try dsimp only [zst1, zst2, zk]
  refine z_iload_n (pc := 4) dX9_countAhead_4 rfl rfl ?_
  refine z_aload_n (pc := 5) dX9_countAhead_5 rfl rfl ?_
  refine z_getR (pc := 6) dX9_countAhead_6 f_RX9_12 (by assumption) rfl ?_
  refine z_getR (pc := 9) dX9_countAhead_9 f_RX9_83 (by assumption) rfl ?_
  refine z_getIv (pc := 12) dX9_countAhead_12 f_RX9_234 (by assumption) rfl (by first | assumption | exact v3 _ (by omega) | exact v4 _ (by omega) | exact v5 _ (by omega) | exact y0 _ (by omega) | exact y1 _ (by omega) | rfl) ?_
  first | refine z_icmp_geN (pc := 15) (tgt := 90) (by with_reducible rfl) (by with_reducible rfl) dX9_countAhead_15 (by decide) (by omega) (by omega) (fun hb15 => absurd hb15 (by omega)) (fun hb15 => ?_) | refine z_icmp_ge (pc := 15) (tgt := 90) dX9_countAhead_15 (by decide) (fun hb15 => absurd hb15 (by omega)) (fun hb15 => ?_)
  · skip
    refine z_iconst (pc := 18) (v := nI 0) dX9_countAhead_18 (by decide) ?_
    refine z_istore (pc := 19) dX9_countAhead_19 (by decide) rfl ?_
    try dsimp only [zst1, zst2, zk]
    exact l_X9_countAhead hC hV hb9 100 0 0 0 _ _ (by omega) (by omega) (by omega) ⟨by rw [Nat.zero_add]; rfl, rfl, rfl⟩
set_option maxHeartbeats 2000000 in
set_option maxRecDepth 20000 in
theorem l_X9_rank {lay : List zL} {Q : Value → zI → zJ → Prop} {S : zS} {d0 : Nat} {k : Int32} {I : zI} {J : zJ} (hC : kC lay) (hV : vC I J S) : ∀ (m i j : Nat), 4 * (S.n 0 - i) + (S.n 1 - j) < m → i < S.n 0 → j ≤ S.n 1 → Q (.int (zrk S.n k (zl (S.n 0) (S.n 1) (3 * i + j)))) I J → Z lay MX9_rank (d0 + 3) 18 [.ref 0, .int k, .int (nI i), .int (nI j)] [] I J Q := by
  obtain ⟨c0, ⟨cP, cG⟩, ⟨cX, cQ, cR⟩, ⟨cS, cB, cD⟩, cf1, cf2, cf3, cU⟩ := id hC
  have p0 : lay[1]? = some (.inl (2, [4, 8, 13, 16, 19])) := cP.1
  have s0 : kS lay 2 := cP.2.1
  obtain ⟨s1, s2, s3, s4⟩ := id s0
  have t0 : kT lay 6 := cP.2.2.1
  obtain ⟨t1, t2, t3, t4, t5⟩ := id t0
  have n5 : kN lay 11 5 := cP.2.2.2.1
  have n8 : kN lay 14 8 := cP.2.2.2.2.1
  have m8 : kN lay 17 8 := cP.2.2.2.2.2
  have w0 : vS I 2 S.n := hV.1.1.1
  have w1 : vT I J 6 S.n := hV.1.1.2.1
  have w5 : vN I 11 5 (S.n 4) (fun k => S.n (52 + k) / 100) (fun k => S.n (52 + k) % 100) := hV.1.1.2.2.1
  have w8 : vN I 14 8 (S.n 5) (fun k => S.n (57 + k) / 100) (fun k => S.n (57 + k) % 100) := hV.1.1.2.2.2.1
  have x8 : vN I 17 8 (S.n 6) (fun k => S.n (65 + k) / 100) (fun k => S.n (65 + k) % 100) := hV.1.1.2.2.2.2
  obtain ⟨v0, v1, v2, v3, v4, v5⟩ := id w0
  obtain ⟨y0, y1, y2⟩ := id w1
  have hbN := hV.1.2
  have hB := hbN.1
  have hT := hbN.2.1
  obtain ⟨b1, b2, b3, b4, b5, b6, b7, b8⟩ := id hB
  have ox := cX.1
  have oq := cQ.1
  have ow := cR.1
  have od := cD.1
  have oe := cB.1
  have of1 := cS.1
  have of2 := cS.2.1
  have ou := cU.1
  have og := cG.1
  have on5 := n5.1
  have on8 := n8.1
  have om8 := m8.1
  have ov := cR.2.1.1
  have z1 := cf1
  have z2 := cf2
  have z3 := cf3
  unfold kF at z1 z2 z3
  intro m
  induction m with
  | zero => intro i j h; exact absurd h (by omega)
  | succ m ih =>
    intro i j hm hi hj hq
    refine z_iload_n (pc := 18) dX9_rank_18 rfl rfl ?_
    refine z_aload_n (pc := 19) dX9_rank_19 rfl rfl ?_
    refine z_getR (pc := 20) dX9_rank_20 f_RX9_12 (by assumption) rfl ?_
    refine z_getR (pc := 23) dX9_rank_23 f_RX9_83 (by assumption) rfl ?_
    refine z_getIv (pc := 26) dX9_rank_26 f_RX9_237 (by assumption) rfl (by first | assumption | exact v3 _ (by omega) | exact v4 _ (by omega) | exact v5 _ (by omega) | exact y0 _ (by omega) | exact y1 _ (by omega) | rfl) ?_
    first | refine z_icmp_geN (pc := 29) (tgt := 58) (by with_reducible rfl) (by with_reducible rfl) dX9_rank_29 (by decide) (by omega) (by omega) (fun hb29 => ?_) (fun hb29 => ?_) | refine z_icmp_ge (pc := 29) (tgt := 58) dX9_rank_29 (by decide) (fun hb29 => ?_) (fun hb29 => ?_)
    · skip
      first | refine z_iincN (pc := 58) (c := 1) dX9_rank_58 rfl (by with_reducible rfl) (by decide) (by decide) rfl ?_ | refine z_iinc (pc := 58) dX9_rank_58 rfl rfl (by decide) rfl ?_
      try dsimp only [zst1, zst2, zk]
      refine z_goto (pc := 61) (tgt := 2) dX9_rank_61 (by decide) ?_
      refine z_iload_n (pc := 2) dX9_rank_2 rfl rfl ?_
      refine z_aload_n (pc := 3) dX9_rank_3 rfl rfl ?_
      refine z_getR (pc := 4) dX9_rank_4 f_RX9_12 (by assumption) rfl ?_
      refine z_getR (pc := 7) dX9_rank_7 f_RX9_83 (by assumption) rfl ?_
      refine z_getIv (pc := 10) dX9_rank_10 f_RX9_234 (by assumption) rfl (by first | assumption | exact v3 _ (by omega) | exact v4 _ (by omega) | exact v5 _ (by omega) | exact y0 _ (by omega) | exact y1 _ (by omega) | rfl) ?_
      first | refine z_icmp_geN (pc := 13) (tgt := 64) (by with_reducible rfl) (by with_reducible rfl) dX9_rank_13 (by decide) (by omega) (by omega) (fun hb13 => ?_) (fun hb13 => ?_) | refine z_icmp_ge (pc := 13) (tgt := 64) dX9_rank_13 (by decide) (fun hb13 => ?_) (fun hb13 => ?_)
      · skip
        refine z_iconst (pc := 64) (v := -1) dX9_rank_64 (by decide) ?_
        refine z_iret (pc := 65) dX9_rank_65 rfl ?_
        first
          | (rw [zl_in _ b2 _ b4 _ hi _ (by omega)] at hq; simp only [zrk] at hq; rw [if_pos hb42, show (3 * i + j) / 3 = i by omega, show (3 * i + j) % 3 = j by omega] at hq; exact hq)
          | (obtain rfl : j = S.n 1 := (by omega); obtain h9 : i + 1 = S.n 0 := (by omega); rw [zl_row _ b2 _ b4 _ hi, h9, zl_end _ b2 _ b4] at hq; exact hq)
          | fail
      · skip
        refine z_iconst (pc := 16) (v := nI 0) dX9_rank_16 (by decide) ?_
        refine z_istore_n (pc := 17) dX9_rank_17 rfl (by decide) rfl ?_
        try dsimp only [zst1, zst2, zk]
        first
          | exact ih i (j + 1) (by omega) hi (by omega) (by rw [zl_in _ b2 _ b4 _ hi _ (by omega)] at hq; simp only [zrk] at hq; rw [if_neg hb42] at hq; exact hq)
          | exact ih (i + 1) 0 (by omega) (by omega) (by omega) (by obtain rfl : j = S.n 1 := (by omega); rw [zl_row _ b2 _ b4 _ hi] at hq; exact hq)
          | fail
    · skip
      refine z_aload_n (pc := 32) dX9_rank_32 rfl rfl ?_
      refine z_iload_n (pc := 33) dX9_rank_33 rfl rfl ?_
      refine z_iload_n (pc := 34) dX9_rank_34 rfl rfl ?_
      refine z_callS (pc := 35) c_X9_place dX9_rank_35 l_RX9_98 m_MX9_place s_MX9_place rfl (by omega) rfl (Nat.le_of_ble_eq_true rfl) ?_
      rintro _ _ _ (⟨rfl, rfl, rfl⟩)
      try dsimp only [zov, Option.toList, List.cons_append, List.nil_append]
      refine z_callV (pc := 38) (c_X9_countAhead hC hV (by omega)) dX9_rank_38 l_RX9_274 m_MX9_countAhead n_MX9_countAhead e_MX9_countAhead rfl (by omega) (by assumption) rfl rfl (Nat.le_of_ble_eq_true rfl) ?_
      rintro _ _ _ (⟨rfl, rfl, rfl⟩)
      try dsimp only [zov, Option.toList, List.cons_append, List.nil_append]
      refine z_iload_n (pc := 41) dX9_rank_41 rfl rfl ?_
      refine z_icmp_ne (pc := 42) (tgt := 52) dX9_rank_42 (by decide) (fun hb42 => ?_) (fun hb42 => ?_)
      · skip
        first | refine z_iincN (pc := 52) (c := 1) dX9_rank_52 rfl (by with_reducible rfl) (by decide) (by decide) rfl ?_ | refine z_iinc (pc := 52) dX9_rank_52 rfl rfl (by decide) rfl ?_
        try dsimp only [zst1, zst2, zk]
        refine z_goto (pc := 55) (tgt := 18) dX9_rank_55 (by decide) ?_
        first
          | exact ih i (j + 1) (by omega) hi (by omega) (by rw [zl_in _ b2 _ b4 _ hi _ (by omega)] at hq; simp only [zrk] at hq; rw [if_neg hb42] at hq; exact hq)
          | exact ih (i + 1) 0 (by omega) (by omega) (by omega) (by obtain rfl : j = S.n 1 := (by omega); rw [zl_row _ b2 _ b4 _ hi] at hq; exact hq)
          | fail
      · skip
        refine z_bipush (pc := 45) (v := nI 10) dX9_rank_45 (by decide) ?_
        refine z_iload_n (pc := 47) dX9_rank_47 rfl rfl ?_
        first | refine z_imulN (pc := 48) (by with_reducible rfl) (by with_reducible rfl) dX9_rank_48 ?_ | refine z_imul (pc := 48) dX9_rank_48 ?_
        refine z_iload_n (pc := 49) dX9_rank_49 rfl rfl ?_
        first | refine z_iaddN (pc := 50) (by with_reducible rfl) (by with_reducible rfl) dX9_rank_50 ?_ | refine z_iadd (pc := 50) dX9_rank_50 ?_
        refine z_iret (pc := 51) dX9_rank_51 rfl ?_
        first
          | (rw [zl_in _ b2 _ b4 _ hi _ (by omega)] at hq; simp only [zrk] at hq; rw [if_pos hb42, show (3 * i + j) / 3 = i by omega, show (3 * i + j) % 3 = j by omega] at hq; exact hq)
          | (obtain rfl : j = S.n 1 := (by omega); obtain h9 : i + 1 = S.n 0 := (by omega); rw [zl_row _ b2 _ b4 _ hi, h9, zl_end _ b2 _ b4] at hq; exact hq)
          | fail
set_option maxHeartbeats 2000000 in
set_option maxRecDepth 20000 in
theorem c_X9_rank {lay : List zL} {I : zI} {J : zJ} {S : zS} (hC : kC lay) (hV : vC I J S) {k : Int32} : zMet lay MX9_rank 3 [.ref 0, .int k] I J (fun r I' J' => zPC I J (frank S k) r I' J') := by
  refine zMet_of (t := MX9_rank) (ls := [.ref 0, .int k, .null, .null]) (by decide +kernel) (Nat.le_of_ble_eq_true rfl) rfl ?_
  obtain ⟨c0, ⟨cP, cG⟩, ⟨cX, cQ, cR⟩, ⟨cS, cB, cD⟩, cf1, cf2, cf3, cU⟩ := id hC
  have p0 : lay[1]? = some (.inl (2, [4, 8, 13, 16, 19])) := cP.1
  have s0 : kS lay 2 := cP.2.1
  obtain ⟨s1, s2, s3, s4⟩ := id s0
  have t0 : kT lay 6 := cP.2.2.1
  obtain ⟨t1, t2, t3, t4, t5⟩ := id t0
  have n5 : kN lay 11 5 := cP.2.2.2.1
  have n8 : kN lay 14 8 := cP.2.2.2.2.1
  have m8 : kN lay 17 8 := cP.2.2.2.2.2
  have w0 : vS I 2 S.n := hV.1.1.1
  have w1 : vT I J 6 S.n := hV.1.1.2.1
  have w5 : vN I 11 5 (S.n 4) (fun k => S.n (52 + k) / 100) (fun k => S.n (52 + k) % 100) := hV.1.1.2.2.1
  have w8 : vN I 14 8 (S.n 5) (fun k => S.n (57 + k) / 100) (fun k => S.n (57 + k) % 100) := hV.1.1.2.2.2.1
  have x8 : vN I 17 8 (S.n 6) (fun k => S.n (65 + k) / 100) (fun k => S.n (65 + k) % 100) := hV.1.1.2.2.2.2
  obtain ⟨v0, v1, v2, v3, v4, v5⟩ := id w0
  obtain ⟨y0, y1, y2⟩ := id w1
  have hbN := hV.1.2
  have hB := hbN.1
  have hT := hbN.2.1
  obtain ⟨b1, b2, b3, b4, b5, b6, b7, b8⟩ := id hB
  have ox := cX.1
  have oq := cQ.1
  have ow := cR.1
  have od := cD.1
  have oe := cB.1
  have of1 := cS.1
  have of2 := cS.2.1
  have ou := cU.1
  have og := cG.1
  have on5 := n5.1
  have on8 := n8.1
  have om8 := m8.1
  have ov := cR.2.1.1
  have z1 := cf1
  have z2 := cf2
  have z3 := cf3
  unfold kF at z1 z2 z3
  refine z_iconst (pc := 0) (v := nI 0) dX9_rank_0 (by decide) ?_
  refine z_istore_n (pc := 1) dX9_rank_1 rfl (by decide) rfl ?_
  try dsimp only [zst1, zst2, zk]
  refine z_iload_n (pc := 2) dX9_rank_2 rfl rfl ?_
  refine z_aload_n (pc := 3) dX9_rank_3 rfl rfl ?_
  refine z_getR (pc := 4) dX9_rank_4 f_RX9_12 (by assumption) rfl ?_
  refine z_getR (pc := 7) dX9_rank_7 f_RX9_83 (by assumption) rfl ?_
  refine z_getIv (pc := 10) dX9_rank_10 f_RX9_234 (by assumption) rfl (by first | assumption | exact v3 _ (by omega) | exact v4 _ (by omega) | exact v5 _ (by omega) | exact y0 _ (by omega) | exact y1 _ (by omega) | rfl) ?_
  first | refine z_icmp_geN (pc := 13) (tgt := 64) (by with_reducible rfl) (by with_reducible rfl) dX9_rank_13 (by decide) (by omega) (by omega) (fun hb13 => absurd hb13 (by omega)) (fun hb13 => ?_) | refine z_icmp_ge (pc := 13) (tgt := 64) dX9_rank_13 (by decide) (fun hb13 => absurd hb13 (by omega)) (fun hb13 => ?_)
  · skip
    refine z_iconst (pc := 16) (v := nI 0) dX9_rank_16 (by decide) ?_
    refine z_istore_n (pc := 17) dX9_rank_17 rfl (by decide) rfl ?_
    try dsimp only [zst1, zst2, zk]
    exact l_X9_rank hC hV 100 0 0 (by omega) (by omega) (by omega) (zPC_same hV rfl)
set_option maxHeartbeats 2000000 in
set_option maxRecDepth 20000 in
theorem c_X3_times {lay : List zL} {I : zI} {J : zJ} {u c z t q : Nat} {n A B : Nat → Nat} (hU : kU lay u) (hV : vU I J u c z A B) (hT : kT lay t) (hW : vT I J t n) (hb : bT n) (hq : q < 9) (hc : c < 4) (hA : A c = n (34 + q)) (hB : B c = n (43 + q)) : zMet lay MX3_times 1 [.ref u, .ref t, .int (nI q)] I J (fun r I' J' => r = .null ∧ vU I' J' u (c + 1) z A B ∧ (∀ a, a ≠ u → I' a = I a) ∧ ∀ a, a ≠ u + 1 → a ≠ u + 2 → J' a = J a) := by
  refine zMet_of (t := MX3_times) (ls := [.ref u, .ref t, .int (nI q)]) (by decide +kernel) (Nat.le_of_ble_eq_true rfl) rfl ?_
  obtain ⟨k1, k2, k3⟩ := id hU
  obtain ⟨t1, t2, t3, t4, t5⟩ := id hT
  obtain ⟨y0, y1, y2⟩ := id hW
  have h9 := hb q hq
  refine z_aload_n (pc := 0) dX3_times_0 rfl rfl ?_
  refine z_aload_n (pc := 1) dX3_times_1 rfl rfl ?_
  refine z_getR (pc := 2) dX3_times_2 f_RX3_26 (by assumption) rfl ?_
  refine z_iload_n (pc := 5) dX3_times_5 rfl rfl ?_
  refine z_laloadv (pc := 6) dX3_times_6 (by assumption) (by with_reducible rfl) (by omega) (by decide) (by first | assumption | exact y0 _ (by omega) | exact y1 _ (by omega) | rfl) ?_
  refine z_aload_n (pc := 7) dX3_times_7 rfl rfl ?_
  refine z_getR (pc := 8) dX3_times_8 f_RX3_29 (by assumption) rfl ?_
  refine z_iload_n (pc := 11) dX3_times_11 rfl rfl ?_
  refine z_laloadv (pc := 12) dX3_times_12 (by assumption) (by with_reducible rfl) (by omega) (by decide) (by first | assumption | exact y0 _ (by omega) | exact y1 _ (by omega) | rfl) ?_
  refine z_callV (pc := 13) (c_X3_append hU hV hc (by omega) (by omega) hA hB) dX3_times_13 l_RX3_30 m_MX3_append n_MX3_append e_MX3_append rfl (by omega) (by assumption) rfl rfl (Nat.le_of_ble_eq_true rfl) ?_
  rintro _ _ _ (⟨rfl, hv, hi, hj⟩)
  try dsimp only [zov, Option.toList, List.cons_append, List.nil_append]
  refine z_vret (pc := 16) dX3_times_16 rfl ?_
  exact ⟨rfl, by rw [if_neg (by omega)] at hv; exact hv, hi, hj⟩
set_option maxHeartbeats 2000000 in
set_option maxRecDepth 20000 in
theorem c_X3_by {lay : List zL} {I : zI} {J : zJ} {u c z t q : Nat} {n A B : Nat → Nat} (hU : kU lay u) (hV : vU I J u c z A B) (hT : kT lay t) (hW : vT I J t n) (hb : bT n) (hq : q < 9) (hc : c < 4) (hA : A c = n (43 + q)) (hB : B c = n (34 + q)) : zMet lay MX3_by 1 [.ref u, .ref t, .int (nI q)] I J (fun r I' J' => r = .null ∧ vU I' J' u (c + 1) (if n (34 + q) = 0 then 1 else z) A B ∧ (∀ a, a ≠ u → I' a = I a) ∧ ∀ a, a ≠ u + 1 → a ≠ u + 2 → J' a = J a) := by
  refine zMet_of (t := MX3_by) (ls := [.ref u, .ref t, .int (nI q)]) (by decide +kernel) (Nat.le_of_ble_eq_true rfl) rfl ?_
  obtain ⟨k1, k2, k3⟩ := id hU
  obtain ⟨t1, t2, t3, t4, t5⟩ := id hT
  obtain ⟨y0, y1, y2⟩ := id hW
  have h9 := hb q hq
  refine z_aload_n (pc := 0) dX3_by_0 rfl rfl ?_
  refine z_aload_n (pc := 1) dX3_by_1 rfl rfl ?_
  refine z_getR (pc := 2) dX3_by_2 f_RX3_29 (by assumption) rfl ?_
  refine z_iload_n (pc := 5) dX3_by_5 rfl rfl ?_
  refine z_laloadv (pc := 6) dX3_by_6 (by assumption) (by with_reducible rfl) (by omega) (by decide) (by first | assumption | exact y0 _ (by omega) | exact y1 _ (by omega) | rfl) ?_
  refine z_aload_n (pc := 7) dX3_by_7 rfl rfl ?_
  refine z_getR (pc := 8) dX3_by_8 f_RX3_26 (by assumption) rfl ?_
  refine z_iload_n (pc := 11) dX3_by_11 rfl rfl ?_
  refine z_laloadv (pc := 12) dX3_by_12 (by assumption) (by with_reducible rfl) (by omega) (by decide) (by first | assumption | exact y0 _ (by omega) | exact y1 _ (by omega) | rfl) ?_
  refine z_callV (pc := 13) (c_X3_append hU hV hc (by omega) (by omega) hA hB) dX3_by_13 l_RX3_30 m_MX3_append n_MX3_append e_MX3_append rfl (by omega) (by assumption) rfl rfl (Nat.le_of_ble_eq_true rfl) ?_
  rintro _ _ _ (⟨rfl, hv, hi, hj⟩)
  try dsimp only [zov, Option.toList, List.cons_append, List.nil_append]
  refine z_vret (pc := 16) dX3_by_16 rfl ?_
  exact ⟨rfl, hv, hi, hj⟩
