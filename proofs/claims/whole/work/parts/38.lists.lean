/-! ===== the class's calls: ratios, rows told by hand ===== -/
theorem zcab_B {n : Nat → Nat} {a b c d : Nat} (h : bT n) (ha : a < 9) (hb : b < 9) (hc : c < 9) (hd : d < 9) (h1 : n (34 + b) ≠ 0) (h2 : n (34 + d) ≠ 0) : zcB (zcab n a b c d) := by
  have q1 := h a ha
  have q2 := h b hb
  have q3 := h c hc
  have q4 := h d hd
  refine ⟨fun k hk => ?_, fun k hk => ?_⟩
  · show (if k = 0 then n (34 + a) else if k = 1 then n (43 + b) else if k = 2 then n (34 + c) else n (43 + d)) ≤ 999999
    split; omega; split; omega; split <;> omega
  · show 1 ≤ (if k = 0 then n (43 + a) else if k = 1 then n (34 + b) else if k = 2 then n (43 + c) else n (34 + d)) ∧ (if k = 0 then n (43 + a) else if k = 1 then n (34 + b) else if k = 2 then n (43 + c) else n (34 + d)) ≤ 999999
    split; omega; split; omega; split <;> omega
theorem fcross_1 {S : zS} {i k j l p : Int32} (h : ¬ isC (S.n 0) (S.n 1) i j) : fcross S i k j l p = (.long zno, S) := by
  rw [fcross, zC_n h]
theorem fcross_2 {S : zS} {i k j l p : Int32} (h : ¬ isC (S.n 0) (S.n 1) k l) : fcross S i k j l p = (.long zno, S) := by
  rw [fcross, zC_n h]
  cases zC (S.n 0) (S.n 1) i j <;> rfl
theorem fcross_3 {S : zS} {i k j l p : Int32} (h : ¬ isR 1 p) : fcross S i k j l p = (.long zno, S) := by
  rw [fcross, zR_n h]
  cases zC (S.n 0) (S.n 1) i j <;> cases zC (S.n 0) (S.n 1) k l <;> rfl
theorem fcross_4 {S : zS} {a b c d q : Nat} (b2 : S.n 0 ≤ 3) (b4 : S.n 1 ≤ 3) (ha : a < S.n 0) (hb : b < S.n 1) (hc : c < S.n 0) (hd : d < S.n 1) (hq : q ≤ 1) : fcross S (nI a) (nI c) (nI b) (nI d) (nI q) = (.long (zcro (if S.n (34 + (3 * c + b)) = 0 then 1 else if S.n (34 + (3 * a + d)) = 0 then 1 else 0) (zcab S.n (3 * a + b) (3 * a + d) (3 * c + d) (3 * c + b)) q), S) := by
  rw [fcross, zC_y b2 b4 ha hb, zC_y b2 b4 hc hd, zR_y (by decide) hq, zt_nI (by omega), zt_nI (by omega), zt_nI (by omega), zt_nI (by omega)]
set_option maxHeartbeats 2000000 in
set_option maxRecDepth 20000 in
theorem c_X9_cross {lay : List zL} {I : zI} {J : zJ} {S : zS} (hC : kC lay) (hV : vC I J S) {i k j l p : Int32} : zMet lay MX9_cross 3 [.ref 0, .int i, .int k, .int j, .int l, .int p] I J (fun r I' J' => zPC I J (fcross S i k j l p) r I' J') := by
  refine zMet_of (t := MX9_cross) (ls := [.ref 0, .int i, .int k, .int j, .int l, .int p]) (by decide +kernel) (Nat.le_of_ble_eq_true rfl) rfl ?_
  obtain ⟨c0, ⟨cP, cG⟩, ⟨cX, cQ, cR⟩, ⟨cS, cB, cD⟩, cf1, cf2, cf3, cU⟩ := id hC
  have p0 : lay[1]? = some (.inl (2, [4, 8, 13, 16, 19])) := cP.1
  have s0 : kS lay 2 := cP.2.1
  obtain ⟨s1, s2, s3, s4⟩ := id s0
  have t0 : kT lay 6 := cP.2.2.1
  obtain ⟨t1, t2, t3, t4, t5⟩ := id t0
  have n5 : kN lay 11 5 := cP.2.2.2.1
  have n8 : kN lay 14 8 := cP.2.2.2.2.1
  have m8 : kN lay 17 8 := cP.2.2.2.2.2
  have w0 : vS I 2 S.n := hV.1.1.1
  have w1 : vT I J 6 S.n := hV.1.1.2.1
  have w5 : vN I 11 5 (S.n 4) (fun k => S.n (52 + k) / 100) (fun k => S.n (52 + k) % 100) := hV.1.1.2.2.1
  have w8 : vN I 14 8 (S.n 5) (fun k => S.n (57 + k) / 100) (fun k => S.n (57 + k) % 100) := hV.1.1.2.2.2.1
  have x8 : vN I 17 8 (S.n 6) (fun k => S.n (65 + k) / 100) (fun k => S.n (65 + k) % 100) := hV.1.1.2.2.2.2
  obtain ⟨v0, v1, v2, v3, v4, v5⟩ := id w0
  obtain ⟨y0, y1, y2⟩ := id w1
  have hbN := hV.1.2
  have hB := hbN.1
  have hT := hbN.2.1
  obtain ⟨b1, b2, b3, b4, b5, b6, b7, b8⟩ := id hB
  have ox := cX.1
  have oq := cQ.1
  have ow := cR.1
  have od := cD.1
  have oe := cB.1
  have of1 := cS.1
  have of2 := cS.2.1
  have ou := cU.1
  have og := cG.1
  have on5 := n5.1
  have on8 := n8.1
  have om8 := m8.1
  have ov := cR.2.1.1
  have z1 := cf1
  have z2 := cf2
  have z3 := cf3
  unfold kF at z1 z2 z3
  refine z_aload_n (pc := 0) dX9_cross_0 rfl rfl ?_
  refine z_getR (pc := 1) dX9_cross_1 f_RX9_12 (by assumption) rfl ?_
  refine z_getR (pc := 4) dX9_cross_4 f_RX9_83 (by assumption) rfl ?_
  refine z_iload_n (pc := 7) dX9_cross_7 rfl rfl ?_
  refine z_iload_n (pc := 8) dX9_cross_8 rfl rfl ?_
  refine z_callV (pc := 9) (c_X6_hasCell s0 w0 hB) dX9_cross_9 l_RX9_90 m_MX6_hasCell n_MX6_hasCell e_MX6_hasCell rfl (by omega) (by assumption) rfl rfl (Nat.le_of_ble_eq_true rfl) ?_
  rintro _ _ _ ⟨⟨rfl, hc⟩ | ⟨rfl, hc⟩, rfl, rfl⟩
  · obtain ⟨a, b, rfl, rfl, ha, hbb⟩ := hc
    try dsimp only [zov, Option.toList, List.cons_append, List.nil_append]
    first | refine z_if_eqN (pc := 12) (tgt := 31) (by with_reducible rfl) dX9_cross_12 (by decide) (by omega) (fun hb12 => absurd hb12 (by decide)) (fun hb12 => ?_) | refine z_if_eq (pc := 12) (tgt := 31) dX9_cross_12 (by decide) (fun hb12 => absurd hb12 (by decide)) (fun hb12 => ?_)
    · skip
      refine z_aload_n (pc := 15) dX9_cross_15 rfl rfl ?_
      refine z_getR (pc := 16) dX9_cross_16 f_RX9_12 (by assumption) rfl ?_
      refine z_getR (pc := 19) dX9_cross_19 f_RX9_83 (by assumption) rfl ?_
      refine z_iload_n (pc := 22) dX9_cross_22 rfl rfl ?_
      refine z_iload (pc := 23) dX9_cross_23 rfl ?_
      refine z_callV (pc := 25) (c_X6_hasCell s0 w0 hB) dX9_cross_25 l_RX9_90 m_MX6_hasCell n_MX6_hasCell e_MX6_hasCell rfl (by omega) (by assumption) rfl rfl (Nat.le_of_ble_eq_true rfl) ?_
      rintro _ _ _ ⟨⟨rfl, hc⟩ | ⟨rfl, hc⟩, rfl, rfl⟩
      · obtain ⟨c, d, rfl, rfl, hcc, hdd⟩ := hc
        try dsimp only [zov, Option.toList, List.cons_append, List.nil_append]
        first | refine z_if_neN (pc := 28) (tgt := 35) (by with_reducible rfl) dX9_cross_28 (by decide) (by omega) (fun hb28 => ?_) (fun hb28 => absurd hb28 (by decide)) | refine z_if_ne (pc := 28) (tgt := 35) dX9_cross_28 (by decide) (fun hb28 => ?_) (fun hb28 => absurd hb28 (by decide))
        · skip
          refine z_iload (pc := 35) dX9_cross_35 rfl ?_
          first | refine z_if_ltN (pc := 37) (tgt := 46) (by with_reducible rfl) dX9_cross_37 (by decide) (by omega) (fun hb37 => ?_) (fun hb37 => ?_) | refine z_if_lt (pc := 37) (tgt := 46) dX9_cross_37 (by decide) (fun hb37 => ?_) (fun hb37 => ?_)
          · skip
            refine z_ldc2 (pc := 46) (v := -9223372036854775808) dX9_cross_46 q_RX9_190 ?_
            refine z_lret (pc := 49) dX9_cross_49 rfl ?_
            first
              | exact zPC_same hV (fcross_1 hc)
              | exact zPC_same hV (fcross_2 hc)
              | exact zPC_same hV (fcross_3 (isR_1 (by decide) hb37))
              | exact zPC_same hV (fcross_3 (isR_2 (by decide) (Int32.not_le.mp hb43)))
              | exact zPC_keep hV (fun x hx => by rw [hi4 x (by omega), hi3 x (by omega), hi2 x (by omega), hi1 x (by omega), zup_o (by omega), zup_o (by omega)]) (fun x hx => by rw [hj5 x (by omega) (by omega), hj4 x (by omega) (by omega), hj3 x (by omega) (by omega), hj2 x (by omega) (by omega), hj1 x (by omega) (by omega)]) (fcross_4 b2 b4 ha hbb hcc hdd hq)
              | fail
          · skip
            refine z_iload (pc := 40) dX9_cross_40 rfl ?_
            refine z_iconst (pc := 42) (v := nI 1) dX9_cross_42 (by decide) ?_
            first | refine z_icmp_leN (pc := 43) (tgt := 50) (by with_reducible rfl) (by with_reducible rfl) dX9_cross_43 (by decide) (by omega) (by omega) (fun hb43 => ?_) (fun hb43 => ?_) | refine z_icmp_le (pc := 43) (tgt := 50) dX9_cross_43 (by decide) (fun hb43 => ?_) (fun hb43 => ?_)
            · skip
              obtain ⟨q, rfl, hq⟩ := nI_get2 (m := 1) (by omega) hb37 (Int32.not_lt.mpr hb43)
              refine z_aload_n (pc := 50) dX9_cross_50 rfl rfl ?_
              refine z_getR (pc := 51) dX9_cross_51 f_RX9_75 (by assumption) rfl ?_
              refine z_callV (pc := 54) (c_X3_clear cU) dX9_cross_54 l_RX9_259 m_MX3_clear n_MX3_clear e_MX3_clear rfl (by omega) (by assumption) rfl rfl (Nat.le_of_ble_eq_true rfl) ?_
              rintro _ _ _ (⟨rfl, rfl, rfl⟩)
              have hu0 : vU (zup (zup I 56 2 (nI 0)) 56 3 (nI 0)) J 56 0 0 (zcab S.n (3 * a + b) (3 * a + d) (3 * c + d) (3 * c + b)).1 (zcab S.n (3 * a + b) (3 * a + d) (3 * c + d) (3 * c + b)).2 := ⟨by rw [zup_n _ _ (by omega)]; exact zup_s _ _ _ _, zup_s _ _ _ _, fun k hk => absurd hk (by omega), fun k hk => absurd hk (by omega)⟩
              have ht0 : vT (zup (zup I 56 2 (nI 0)) 56 3 (nI 0)) J 6 S.n := vT_to w1 (by rw [zup_o (by omega), zup_o (by omega)]) rfl rfl
              try dsimp only [zov, Option.toList, List.cons_append, List.nil_append]
              refine z_aload_n (pc := 57) dX9_cross_57 rfl rfl ?_
              refine z_getR (pc := 58) dX9_cross_58 f_RX9_75 (by assumption) rfl ?_
              refine z_aload_n (pc := 61) dX9_cross_61 rfl rfl ?_
              refine z_getR (pc := 62) dX9_cross_62 f_RX9_12 (by assumption) rfl ?_
              refine z_getR (pc := 65) dX9_cross_65 f_RX9_102 (by assumption) rfl ?_
              refine z_iload_n (pc := 68) dX9_cross_68 rfl rfl ?_
              refine z_iload_n (pc := 69) dX9_cross_69 rfl rfl ?_
              refine z_callS (pc := 70) c_X9_place dX9_cross_70 l_RX9_98 m_MX9_place s_MX9_place rfl (by omega) rfl (Nat.le_of_ble_eq_true rfl) ?_
              rintro _ _ _ (⟨rfl, rfl, rfl⟩)
              try dsimp only [zov, Option.toList, List.cons_append, List.nil_append]
              refine z_callV (pc := 73) (c_X3_times cU hu0 t0 ht0 hT (by omega) (by omega) rfl rfl) dX9_cross_73 l_RX9_262 m_MX3_times n_MX3_times e_MX3_times rfl (by omega) (by assumption) rfl rfl (Nat.le_of_ble_eq_true rfl) ?_
              rintro _ _ _ (⟨rfl, hu1, hi1, hj1⟩)
              have ht1 := vT_to ht0 (hi1 6 (by omega)) (hj1 7 (by omega) (by omega)) (hj1 8 (by omega) (by omega))
              try dsimp only [zov, Option.toList, List.cons_append, List.nil_append]
              refine z_aload_n (pc := 76) dX9_cross_76 rfl rfl ?_
              refine z_getR (pc := 77) dX9_cross_77 f_RX9_75 (by assumption) rfl ?_
              refine z_aload_n (pc := 80) dX9_cross_80 rfl rfl ?_
              refine z_getR (pc := 81) dX9_cross_81 f_RX9_12 (by assumption) rfl ?_
              refine z_getR (pc := 84) dX9_cross_84 f_RX9_102 (by assumption) rfl ?_
              refine z_iload_n (pc := 87) dX9_cross_87 rfl rfl ?_
              refine z_iload (pc := 88) dX9_cross_88 rfl ?_
              refine z_callS (pc := 90) c_X9_place dX9_cross_90 l_RX9_98 m_MX9_place s_MX9_place rfl (by omega) rfl (Nat.le_of_ble_eq_true rfl) ?_
              rintro _ _ _ (⟨rfl, rfl, rfl⟩)
              try dsimp only [zov, Option.toList, List.cons_append, List.nil_append]
              refine z_callV (pc := 93) (c_X3_by cU hu1 t0 ht1 hT (by omega) (by omega) rfl rfl) dX9_cross_93 l_RX9_266 m_MX3_by n_MX3_by e_MX3_by rfl (by omega) (by assumption) rfl rfl (Nat.le_of_ble_eq_true rfl) ?_
              rintro _ _ _ (⟨rfl, hu2, hi2, hj2⟩)
              have ht2 := vT_to ht1 (hi2 6 (by omega)) (hj2 7 (by omega) (by omega)) (hj2 8 (by omega) (by omega))
              try dsimp only [zov, Option.toList, List.cons_append, List.nil_append]
              refine z_aload_n (pc := 96) dX9_cross_96 rfl rfl ?_
              refine z_getR (pc := 97) dX9_cross_97 f_RX9_75 (by assumption) rfl ?_
              refine z_aload_n (pc := 100) dX9_cross_100 rfl rfl ?_
              refine z_getR (pc := 101) dX9_cross_101 f_RX9_12 (by assumption) rfl ?_
              refine z_getR (pc := 104) dX9_cross_104 f_RX9_102 (by assumption) rfl ?_
              refine z_iload_n (pc := 107) dX9_cross_107 rfl rfl ?_
              refine z_iload (pc := 108) dX9_cross_108 rfl ?_
              refine z_callS (pc := 110) c_X9_place dX9_cross_110 l_RX9_98 m_MX9_place s_MX9_place rfl (by omega) rfl (Nat.le_of_ble_eq_true rfl) ?_
              rintro _ _ _ (⟨rfl, rfl, rfl⟩)
              try dsimp only [zov, Option.toList, List.cons_append, List.nil_append]
              refine z_callV (pc := 113) (c_X3_times cU hu2 t0 ht2 hT (by omega) (by omega) rfl rfl) dX9_cross_113 l_RX9_262 m_MX3_times n_MX3_times e_MX3_times rfl (by omega) (by assumption) rfl rfl (Nat.le_of_ble_eq_true rfl) ?_
              rintro _ _ _ (⟨rfl, hu3, hi3, hj3⟩)
              have ht3 := vT_to ht2 (hi3 6 (by omega)) (hj3 7 (by omega) (by omega)) (hj3 8 (by omega) (by omega))
              try dsimp only [zov, Option.toList, List.cons_append, List.nil_append]
              refine z_aload_n (pc := 116) dX9_cross_116 rfl rfl ?_
              refine z_getR (pc := 117) dX9_cross_117 f_RX9_75 (by assumption) rfl ?_
              refine z_aload_n (pc := 120) dX9_cross_120 rfl rfl ?_
              refine z_getR (pc := 121) dX9_cross_121 f_RX9_12 (by assumption) rfl ?_
              refine z_getR (pc := 124) dX9_cross_124 f_RX9_102 (by assumption) rfl ?_
              refine z_iload_n (pc := 127) dX9_cross_127 rfl rfl ?_
              refine z_iload_n (pc := 128) dX9_cross_128 rfl rfl ?_
              refine z_callS (pc := 129) c_X9_place dX9_cross_129 l_RX9_98 m_MX9_place s_MX9_place rfl (by omega) rfl (Nat.le_of_ble_eq_true rfl) ?_
              rintro _ _ _ (⟨rfl, rfl, rfl⟩)
              try dsimp only [zov, Option.toList, List.cons_append, List.nil_append]
              refine z_callV (pc := 132) (c_X3_by cU hu3 t0 ht3 hT (by omega) (by omega) rfl rfl) dX9_cross_132 l_RX9_266 m_MX3_by n_MX3_by e_MX3_by rfl (by omega) (by assumption) rfl rfl (Nat.le_of_ble_eq_true rfl) ?_
              rintro _ _ _ (⟨rfl, hu4, hi4, hj4⟩)
              have hz : (if S.n (34 + (3 * c + b)) = 0 then 1 else if S.n (34 + (3 * a + d)) = 0 then 1 else 0) ≤ 1 := by split; omega; split <;> omega
              have hzB : (if S.n (34 + (3 * c + b)) = 0 then 1 else if S.n (34 + (3 * a + d)) = 0 then 1 else 0) = 0 → zcB (zcab S.n (3 * a + b) (3 * a + d) (3 * c + d) (3 * c + b)) := by
                intro q
                split at q
                · cases q
                · split at q
                  · cases q
                  · exact zcab_B hT (by omega) (by omega) (by omega) (by omega) (by assumption) (by assumption)
              try dsimp only [zov, Option.toList, List.cons_append, List.nil_append]
              refine z_aload_n (pc := 135) dX9_cross_135 rfl rfl ?_
              refine z_getR (pc := 136) dX9_cross_136 f_RX9_75 (by assumption) rfl ?_
              refine z_iload (pc := 139) dX9_cross_139 rfl ?_
              refine z_callV (pc := 141) (c_X3_partOf cU hu4.1 hu4.2.1 hz hu4.2.2.1 hu4.2.2.2 hzB hq) dX9_cross_141 l_RX9_269 m_MX3_partOf n_MX3_partOf e_MX3_partOf rfl (by omega) (by assumption) rfl rfl (Nat.le_of_ble_eq_true rfl) ?_
              rintro _ _ _ (⟨rfl, rfl, hj5⟩)
              try dsimp only [zov, Option.toList, List.cons_append, List.nil_append]
              refine z_lret (pc := 144) dX9_cross_144 rfl ?_
              first
                | exact zPC_same hV (fcross_1 hc)
                | exact zPC_same hV (fcross_2 hc)
                | exact zPC_same hV (fcross_3 (isR_1 (by decide) hb37))
                | exact zPC_same hV (fcross_3 (isR_2 (by decide) (Int32.not_le.mp hb43)))
                | exact zPC_keep hV (fun x hx => by rw [hi4 x (by omega), hi3 x (by omega), hi2 x (by omega), hi1 x (by omega), zup_o (by omega), zup_o (by omega)]) (fun x hx => by rw [hj5 x (by omega) (by omega), hj4 x (by omega) (by omega), hj3 x (by omega) (by omega), hj2 x (by omega) (by omega), hj1 x (by omega) (by omega)]) (fcross_4 b2 b4 ha hbb hcc hdd hq)
                | fail
            · skip
              refine z_ldc2 (pc := 46) (v := -9223372036854775808) dX9_cross_46 q_RX9_190 ?_
              refine z_lret (pc := 49) dX9_cross_49 rfl ?_
              first
                | exact zPC_same hV (fcross_1 hc)
                | exact zPC_same hV (fcross_2 hc)
                | exact zPC_same hV (fcross_3 (isR_1 (by decide) hb37))
                | exact zPC_same hV (fcross_3 (isR_2 (by decide) (Int32.not_le.mp hb43)))
                | exact zPC_keep hV (fun x hx => by rw [hi4 x (by omega), hi3 x (by omega), hi2 x (by omega), hi1 x (by omega), zup_o (by omega), zup_o (by omega)]) (fun x hx => by rw [hj5 x (by omega) (by omega), hj4 x (by omega) (by omega), hj3 x (by omega) (by omega), hj2 x (by omega) (by omega), hj1 x (by omega) (by omega)]) (fcross_4 b2 b4 ha hbb hcc hdd hq)
                | fail
      · skip
        try dsimp only [zov, Option.toList, List.cons_append, List.nil_append]
        first | refine z_if_neN (pc := 28) (tgt := 35) (by with_reducible rfl) dX9_cross_28 (by decide) (by omega) (fun hb28 => absurd hb28 (by decide)) (fun hb28 => ?_) | refine z_if_ne (pc := 28) (tgt := 35) dX9_cross_28 (by decide) (fun hb28 => absurd hb28 (by decide)) (fun hb28 => ?_)
        · skip
          refine z_ldc2 (pc := 31) (v := -9223372036854775808) dX9_cross_31 q_RX9_190 ?_
          refine z_lret (pc := 34) dX9_cross_34 rfl ?_
          first
            | exact zPC_same hV (fcross_1 hc)
            | exact zPC_same hV (fcross_2 hc)
            | exact zPC_same hV (fcross_3 (isR_1 (by decide) hb37))
            | exact zPC_same hV (fcross_3 (isR_2 (by decide) (Int32.not_le.mp hb43)))
            | exact zPC_keep hV (fun x hx => by rw [hi4 x (by omega), hi3 x (by omega), hi2 x (by omega), hi1 x (by omega), zup_o (by omega), zup_o (by omega)]) (fun x hx => by rw [hj5 x (by omega) (by omega), hj4 x (by omega) (by omega), hj3 x (by omega) (by omega), hj2 x (by omega) (by omega), hj1 x (by omega) (by omega)]) (fcross_4 b2 b4 ha hbb hcc hdd hq)
            | fail
  · skip
    try dsimp only [zov, Option.toList, List.cons_append, List.nil_append]
    first | refine z_if_eqN (pc := 12) (tgt := 31) (by with_reducible rfl) dX9_cross_12 (by decide) (by omega) (fun hb12 => ?_) (fun hb12 => absurd hb12 (by decide)) | refine z_if_eq (pc := 12) (tgt := 31) dX9_cross_12 (by decide) (fun hb12 => ?_) (fun hb12 => absurd hb12 (by decide))
    · skip
      refine z_ldc2 (pc := 31) (v := -9223372036854775808) dX9_cross_31 q_RX9_190 ?_
      refine z_lret (pc := 34) dX9_cross_34 rfl ?_
      first
        | exact zPC_same hV (fcross_1 hc)
        | exact zPC_same hV (fcross_2 hc)
        | exact zPC_same hV (fcross_3 (isR_1 (by decide) hb37))
        | exact zPC_same hV (fcross_3 (isR_2 (by decide) (Int32.not_le.mp hb43)))
        | exact zPC_keep hV (fun x hx => by rw [hi4 x (by omega), hi3 x (by omega), hi2 x (by omega), hi1 x (by omega), zup_o (by omega), zup_o (by omega)]) (fun x hx => by rw [hj5 x (by omega) (by omega), hj4 x (by omega) (by omega), hj3 x (by omega) (by omega), hj2 x (by omega) (by omega), hj1 x (by omega) (by omega)]) (fcross_4 b2 b4 ha hbb hcc hdd hq)
        | fail
theorem flist_i {S : zS} {m o most : Nat} {i j v : Int32} : ∃ x, (flist S m o most i j v).1 = .int x := by
  unfold flist
  split
  · exact ⟨_, rfl⟩
  · split
    · exact ⟨_, rfl⟩
    · split
      · exact ⟨_, rfl⟩
      · split <;> exact ⟨_, rfl⟩
theorem flist_0 {S : zS} {m o most : Nat} {j v : Int32} : flist S m o most (-1) j v = (.int (nI 0), S.up (zset1 S.n m 0)) := if_pos rfl
theorem flist_1 {S : zS} {m o most : Nat} {i j v : Int32} (h : ¬ i = -1) (hc : ¬ isC (S.n 0) (S.n 1) i j) : flist S m o most i j v = (.int (-1), S) := by
  rw [flist, if_neg h, zC_n hc]
theorem flist_2 {S : zS} {m o most a b : Nat} {v : Int32} (h : ¬ nI a = -1) (b2 : S.n 0 ≤ 3) (b4 : S.n 1 ≤ 3) (ha : a < S.n 0) (hb : b < S.n 1) (hv : ¬ isR 60 v) : flist S m o most (nI a) (nI b) v = (.int (-2), S) := by
  rw [flist, if_neg h, zC_y b2 b4 ha hb]
  dsimp only
  rw [zR_n hv]
theorem flist_3 {S : zS} {m o most a b x : Nat} (h : ¬ nI a = -1) (b2 : S.n 0 ≤ 3) (b4 : S.n 1 ≤ 3) (ha : a < S.n 0) (hb : b < S.n 1) (hv : x ≤ 60) (hm : S.n m = most) : flist S m o most (nI a) (nI b) (nI x) = (.int (-4), S) := by
  rw [flist, if_neg h, zC_y b2 b4 ha hb]
  dsimp only
  rw [zR_y (by decide) hv]
  exact if_pos hm
theorem flist_4 {S : zS} {m o most a b x : Nat} (h : ¬ nI a = -1) (b2 : S.n 0 ≤ 3) (b4 : S.n 1 ≤ 3) (ha : a < S.n 0) (hb : b < S.n 1) (hv : x ≤ 60) (hm : ¬ S.n m = most) : flist S m o most (nI a) (nI b) (nI x) = (.int (nI (S.n m + 1)), S.up (zset1 (zset1 S.n (o + S.n m) (100 * (3 * a + b) + x)) m (S.n m + 1))) := by
  rw [flist, if_neg h, zC_y b2 b4 ha hb]
  dsimp only
  rw [zR_y (by decide) hv]
  exact if_neg hm
theorem vNa {I : zI} {a e c : Nat} {f g f' g' : Nat → Nat} (h : vN I a e c f g) : vN (zup I a 1 (nI 0)) a e 0 f' g' := ⟨by rw [zup_n _ _ (by omega)]; exact h.1, zup_s _ _ _ _, Nat.zero_le _, fun k hk => absurd hk (by omega), fun k hk => absurd hk (by omega)⟩
theorem vNb {I : zI} {a e c x y : Nat} {f g f' g' : Nat → Nat} (h : vN I a e c f g) (hc : c < e) (hf : ∀ k, k < c → f' k = f k) (hg : ∀ k, k < c → g' k = g k) (hx : f' c = x) (hy : g' c = y) : vN (zup (zup (zup I (a + 1) c (nI x)) (a + 2) c (nI y)) a 1 (nI (c + 1))) a e (c + 1) f' g' := by
  obtain ⟨h1, h2, h3, h4, h5⟩ := h
  refine ⟨?_, zup_s _ _ _ _, hc, fun k hk => ?_, fun k hk => ?_⟩
  · rw [zup_n _ _ (by omega), zup_o (by omega), zup_o (by omega)]; exact h1
  · rw [zup_o (by omega), zup_o (by omega)]
    by_cases q : k = c
    · rw [q, hx]; exact zup_s _ _ _ _
    · rw [zup_n _ _ (by omega), hf k (by omega)]; exact h4 k (by omega)
  · rw [zup_o (by omega)]
    by_cases q : k = c
    · rw [q, hy]; exact zup_s _ _ _ _
    · rw [zup_n _ _ (by omega), zup_o (by omega), hg k (by omega)]; exact h5 k (by omega)
theorem vNc {I I' : zI} {a e c c' : Nat} {f g f' g' : Nat → Nat} (h : vN I a e c f g) (hI : ∀ x, a ≤ x → x ≤ a + 2 → I' x = I x) (hc : c' = c) (hf : ∀ k, k < c → f' k = f k) (hg : ∀ k, k < c → g' k = g k) : vN I' a e c' f' g' := by
  obtain ⟨h1, h2, h3, h4, h5⟩ := h
  subst hc
  refine ⟨?_, ?_, h3, fun k hk => ?_, fun k hk => ?_⟩
  · rw [hI a (by omega) (by omega)]; exact h1
  · rw [hI a (by omega) (by omega)]; exact h2
  · rw [hI _ (by omega) (by omega), hf k hk]; exact h4 k hk
  · rw [hI _ (by omega) (by omega), hg k hk]; exact h5 k hk
theorem l_see_0 {I : zI} {J : zJ} {S : zS} (hV : vC I J S) : zPC I J (.int (nI 0), S.up (zset1 S.n 4 0)) (.int (nI 0)) (zup I 11 1 (nI 0)) J := by
  have w0 : vS I 2 S.n := hV.1.1.1
  have w1 : vT I J 6 S.n := hV.1.1.2.1
  have w5 : vN I 11 5 (S.n 4) (fun k => S.n (52 + k) / 100) (fun k => S.n (52 + k) % 100) := hV.1.1.2.2.1
  have w8 : vN I 14 8 (S.n 5) (fun k => S.n (57 + k) / 100) (fun k => S.n (57 + k) % 100) := hV.1.1.2.2.2.1
  have x8 : vN I 17 8 (S.n 6) (fun k => S.n (65 + k) / 100) (fun k => S.n (65 + k) % 100) := hV.1.1.2.2.2.2
  have hb := vC_b hV
  have hs : ∀ k, k ≠ 4 → zset1 S.n 4 0 k = S.n k := fun k h => zset1_o h
  have hm : zset1 S.n 4 0 4 = 0 := zset1_s
  refine zPC_now hV (fun x q1 q2 => zup_o (by omega)) (fun _ _ _ => rfl) ⟨vS_to (vS_n w0 (fun k hk => hs k (by omega))) (zup_o (by omega)) (zup_o (by omega)) (zup_o (by omega)) (zup_o (by omega)), vT_to (vT_n w1 (fun k hk => hs k (by omega))) (zup_o (by omega)) rfl rfl, ?_, ?_, ?_⟩ ?_ rfl
  · rw [hm]; exact vNa w5
  · exact vNc w8 (fun x q1 q2 => zup_o (by omega)) (hs 5 (by omega)) (fun k hk => by show zset1 S.n 4 0 (57 + k) / 100 = _; rw [hs (57 + k) (by omega)]) (fun k hk => by show zset1 S.n 4 0 (57 + k) % 100 = _; rw [hs (57 + k) (by omega)])
  · exact vNc x8 (fun x q1 q2 => zup_o (by omega)) (hs 6 (by omega)) (fun k hk => by show zset1 S.n 4 0 (65 + k) / 100 = _; rw [hs (65 + k) (by omega)]) (fun k hk => by show zset1 S.n 4 0 (65 + k) % 100 = _; rw [hs (65 + k) (by omega)])
  · obtain ⟨q1, q2, q3, q4, q5, q6⟩ := hb
    refine ⟨bS_to q1 (fun k hk => hs k (by omega)), zset1_bT q2 (by omega), ?_, fun k hk => ?_, fun k hk => ?_, fun k hk => ?_⟩
    · refine ⟨?_, ?_, ?_⟩
      all_goals first | (rw [hm]; omega) | (rw [hs _ (by omega)]; omega)
    all_goals first
      | (rw [hm] at hk; exact absurd hk (by omega))
      | (rw [hs _ (by omega)] at hk; unfold zls1; rw [hs 0 (by omega), hs 1 (by omega), hs _ (by omega)]; first | exact q4 k hk | exact q6 k hk)
      | (rw [hs _ (by omega)] at hk; unfold zevok; rw [hs 0 (by omega), hs 1 (by omega), hs _ (by omega)]; exact q5 k hk)
theorem l_see_1 {I : zI} {J : zJ} {S : zS} {a b x : Nat} (hV : vC I J S) (ha : a < S.n 0) (hbb : b < S.n 1) (hx : x ≤ 60) (hc : S.n 4 < 5) : zPC I J (.int (nI (S.n 4 + 1)), S.up (zset1 (zset1 S.n (52 + S.n 4) (100 * (3 * a + b) + x)) 4 (S.n 4 + 1))) (.int (nI (S.n 4 + 1))) (zup (zup (zup I (11 + 1) (S.n 4) (nI (3 * a + b))) (11 + 2) (S.n 4) (nI x)) 11 1 (nI (S.n 4 + 1))) J := by
  have w0 : vS I 2 S.n := hV.1.1.1
  have w1 : vT I J 6 S.n := hV.1.1.2.1
  have w5 : vN I 11 5 (S.n 4) (fun k => S.n (52 + k) / 100) (fun k => S.n (52 + k) % 100) := hV.1.1.2.2.1
  have w8 : vN I 14 8 (S.n 5) (fun k => S.n (57 + k) / 100) (fun k => S.n (57 + k) % 100) := hV.1.1.2.2.2.1
  have x8 : vN I 17 8 (S.n 6) (fun k => S.n (65 + k) / 100) (fun k => S.n (65 + k) % 100) := hV.1.1.2.2.2.2
  have hb := vC_b hV
  obtain ⟨b1, b2, b3, b4, _⟩ := id hb.1
  have h44 := hb.2.2.1
  have hg : ∃ n', n' = zset1 (zset1 S.n (52 + S.n 4) (100 * (3 * a + b) + x)) 4 (S.n 4 + 1) := ⟨_, rfl⟩
  obtain ⟨n', hn'⟩ := hg
  have hs : ∀ k, k ≠ 4 → k ≠ 52 + S.n 4 → n' k = S.n k := fun k h h2 => by rw [hn', zset1_o h, zset1_o h2]
  have hm : n' 4 = S.n 4 + 1 := by rw [hn']; exact zset1_s
  have ho : n' (52 + S.n 4) = 100 * (3 * a + b) + x := by rw [hn', zset1_o (by omega)]; exact zset1_s
  rw [← hn']
  refine zPC_now hV (fun x q1 q2 => by rw [zup_o (by omega), zup_o (by omega), zup_o (by omega)]) (fun _ _ _ => rfl) ⟨vS_to (vS_n w0 (fun k hk => hs k (by omega) (by omega))) (by rw [zup_o (by omega), zup_o (by omega), zup_o (by omega)]) (by rw [zup_o (by omega), zup_o (by omega), zup_o (by omega)]) (by rw [zup_o (by omega), zup_o (by omega), zup_o (by omega)]) (by rw [zup_o (by omega), zup_o (by omega), zup_o (by omega)]), vT_to (vT_n w1 (fun k hk => hs k (by omega) (by omega))) (by rw [zup_o (by omega), zup_o (by omega), zup_o (by omega)]) rfl rfl, ?_, ?_, ?_⟩ ?_ rfl
  · rw [hm]; exact vNb w5 hc (fun k hk => by show n' (52 + k) / 100 = _; rw [hs (52 + k) (by omega) (by omega)]) (fun k hk => by show n' (52 + k) % 100 = _; rw [hs (52 + k) (by omega) (by omega)]) (by show n' (52 + S.n 4) / 100 = _; rw [ho]; omega) (by show n' (52 + S.n 4) % 100 = _; rw [ho]; omega)
  · exact vNc w8 (fun x q1 q2 => by rw [zup_o (by omega), zup_o (by omega), zup_o (by omega)]) (hs 5 (by omega) (by omega)) (fun k hk => by show n' (57 + k) / 100 = _; rw [hs (57 + k) (by omega) (by omega)]) (fun k hk => by show n' (57 + k) % 100 = _; rw [hs (57 + k) (by omega) (by omega)])
  · exact vNc x8 (fun x q1 q2 => by rw [zup_o (by omega), zup_o (by omega), zup_o (by omega)]) (hs 6 (by omega) (by omega)) (fun k hk => by show n' (65 + k) / 100 = _; rw [hs (65 + k) (by omega) (by omega)]) (fun k hk => by show n' (65 + k) % 100 = _; rw [hs (65 + k) (by omega) (by omega)])
  · obtain ⟨q1, q2, q3, q4, q5, q6⟩ := hb
    refine ⟨bS_to q1 (fun k hk => hs k (by omega) (by omega)), fun k hk => ?_, ?_, fun k hk => ?_, fun k hk => ?_, fun k hk => ?_⟩
    · rw [hs _ (by omega) (by omega), hs _ (by omega) (by omega)]; exact q2 k hk
    · refine ⟨?_, ?_, ?_⟩
      all_goals first | (rw [hm]; omega) | (rw [hs _ (by omega) (by omega)]; omega)
    all_goals first
      | (rw [hm] at hk
         unfold zls1
         rw [hs 0 (by omega) (by omega), hs 1 (by omega) (by omega)]
         by_cases q : k = S.n 4
         · rw [q, ho]; omega
         · rw [hs _ (by omega) (by omega)]; first | exact q4 k (by omega) | exact q6 k (by omega))
      | (rw [hs _ (by omega) (by omega)] at hk; unfold zls1; rw [hs 0 (by omega) (by omega), hs 1 (by omega) (by omega), hs _ (by omega) (by omega)]; first | exact q4 k hk | exact q6 k hk)
      | (rw [hs _ (by omega) (by omega)] at hk; unfold zevok; rw [hs 0 (by omega) (by omega), hs 1 (by omega) (by omega), hs _ (by omega) (by omega)]; exact q5 k hk)
set_option maxHeartbeats 2000000 in
set_option maxRecDepth 20000 in
theorem c_X9_noteCell_see {lay : List zL} {I : zI} {J : zJ} {S : zS} (hC : kC lay) (hV : vC I J S) {i j v : Int32} : zMet lay MX9_noteCell 3 [.ref 0, .ref 11, .int i, .int j, .int v] I J (fun r I' J' => zPC I J (flist S 4 52 5 i j v) r I' J') := by
  refine zMet_of (t := MX9_noteCell) (ls := [.ref 0, .ref 11, .int i, .int j, .int v]) (by decide +kernel) (Nat.le_of_ble_eq_true rfl) rfl ?_
  obtain ⟨c0, ⟨cP, cG⟩, ⟨cX, cQ, cR⟩, ⟨cS, cB, cD⟩, cf1, cf2, cf3, cU⟩ := id hC
  have p0 : lay[1]? = some (.inl (2, [4, 8, 13, 16, 19])) := cP.1
  have s0 : kS lay 2 := cP.2.1
  obtain ⟨s1, s2, s3, s4⟩ := id s0
  have t0 : kT lay 6 := cP.2.2.1
  obtain ⟨t1, t2, t3, t4, t5⟩ := id t0
  have n5 : kN lay 11 5 := cP.2.2.2.1
  have n8 : kN lay 14 8 := cP.2.2.2.2.1
  have m8 : kN lay 17 8 := cP.2.2.2.2.2
  have w0 : vS I 2 S.n := hV.1.1.1
  have w1 : vT I J 6 S.n := hV.1.1.2.1
  have w5 : vN I 11 5 (S.n 4) (fun k => S.n (52 + k) / 100) (fun k => S.n (52 + k) % 100) := hV.1.1.2.2.1
  have w8 : vN I 14 8 (S.n 5) (fun k => S.n (57 + k) / 100) (fun k => S.n (57 + k) % 100) := hV.1.1.2.2.2.1
  have x8 : vN I 17 8 (S.n 6) (fun k => S.n (65 + k) / 100) (fun k => S.n (65 + k) % 100) := hV.1.1.2.2.2.2
  obtain ⟨v0, v1, v2, v3, v4, v5⟩ := id w0
  obtain ⟨y0, y1, y2⟩ := id w1
  have hbN := hV.1.2
  have hB := hbN.1
  have hT := hbN.2.1
  obtain ⟨b1, b2, b3, b4, b5, b6, b7, b8⟩ := id hB
  have ox := cX.1
  have oq := cQ.1
  have ow := cR.1
  have od := cD.1
  have oe := cB.1
  have of1 := cS.1
  have of2 := cS.2.1
  have ou := cU.1
  have og := cG.1
  have on5 := n5.1
  have on8 := n8.1
  have om8 := m8.1
  have ov := cR.2.1.1
  have z1 := cf1
  have z2 := cf2
  have z3 := cf3
  unfold kF at z1 z2 z3
  refine z_iload_n (pc := 0) dX9_noteCell_0 rfl rfl ?_
  refine z_iconst (pc := 1) (v := -1) dX9_noteCell_1 (by decide) ?_
  refine z_icmp_ne (pc := 2) (tgt := 10) dX9_noteCell_2 (by decide) (fun hb2 => ?_) (fun hb2 => ?_)
  · skip
    refine z_aload_n (pc := 10) dX9_noteCell_10 rfl rfl ?_
    refine z_getR (pc := 11) dX9_noteCell_11 f_RX9_12 (by assumption) rfl ?_
    refine z_getR (pc := 14) dX9_noteCell_14 f_RX9_83 (by assumption) rfl ?_
    refine z_iload_n (pc := 17) dX9_noteCell_17 rfl rfl ?_
    refine z_iload_n (pc := 18) dX9_noteCell_18 rfl rfl ?_
    refine z_callV (pc := 19) (c_X6_hasCell s0 w0 hB) dX9_noteCell_19 l_RX9_90 m_MX6_hasCell n_MX6_hasCell e_MX6_hasCell rfl (by omega) (by assumption) rfl rfl (Nat.le_of_ble_eq_true rfl) ?_
    rintro _ _ _ ⟨⟨rfl, hc⟩ | ⟨rfl, hc⟩, rfl, rfl⟩
    · obtain ⟨a, b, rfl, rfl, ha, hbb⟩ := hc; have hk : 3 * a + b < 9 := (by omega)
      try dsimp only [zov, Option.toList, List.cons_append, List.nil_append]
      first | refine z_if_neN (pc := 22) (tgt := 27) (by with_reducible rfl) dX9_noteCell_22 (by decide) (by omega) (fun hb22 => ?_) (fun hb22 => absurd hb22 (by decide)) | refine z_if_ne (pc := 22) (tgt := 27) dX9_noteCell_22 (by decide) (fun hb22 => ?_) (fun hb22 => absurd hb22 (by decide))
      · skip
        refine z_iload (pc := 27) dX9_noteCell_27 rfl ?_
        first | refine z_if_ltN (pc := 29) (tgt := 39) (by with_reducible rfl) dX9_noteCell_29 (by decide) (by omega) (fun hb29 => ?_) (fun hb29 => ?_) | refine z_if_lt (pc := 29) (tgt := 39) dX9_noteCell_29 (by decide) (fun hb29 => ?_) (fun hb29 => ?_)
        · skip
          refine z_bipush (pc := 39) (v := -2) dX9_noteCell_39 (by decide) ?_
          refine z_iret (pc := 41) dX9_noteCell_41 rfl ?_
          first
            | (rw [flist_0]; exact l_see_0 hV)
            | exact zPC_same hV (flist_1 hb2 hc)
            | exact zPC_same hV (flist_2 hb2 b2 b4 ha hbb (isR_1 (by decide) hb29))
            | exact zPC_same hV (flist_2 hb2 b2 b4 ha hbb (isR_2 (by decide) (Int32.not_le.mp hb36)))
            | exact zPC_same hV (flist_3 hb2 b2 b4 ha hbb hx hp)
            | (rw [flist_4 hb2 b2 b4 ha hbb hx (by omega)]; exact l_see_1 hV ha hbb hx hp)
            | fail
        · skip
          refine z_iload (pc := 32) dX9_noteCell_32 rfl ?_
          refine z_bipush (pc := 34) (v := nI 60) dX9_noteCell_34 (by decide) ?_
          first | refine z_icmp_leN (pc := 36) (tgt := 42) (by with_reducible rfl) (by with_reducible rfl) dX9_noteCell_36 (by decide) (by omega) (by omega) (fun hb36 => ?_) (fun hb36 => ?_) | refine z_icmp_le (pc := 36) (tgt := 42) dX9_noteCell_36 (by decide) (fun hb36 => ?_) (fun hb36 => ?_)
          · skip
            obtain ⟨x, rfl, hx⟩ := nI_get2 (m := 60) (by omega) hb29 (Int32.not_lt.mpr hb36)
            refine z_aload_n (pc := 42) dX9_noteCell_42 rfl rfl ?_
            refine z_iload_n (pc := 43) dX9_noteCell_43 rfl rfl ?_
            refine z_iload_n (pc := 44) dX9_noteCell_44 rfl rfl ?_
            refine z_callS (pc := 45) c_X9_place dX9_noteCell_45 l_RX9_98 m_MX9_place s_MX9_place rfl (by omega) rfl (Nat.le_of_ble_eq_true rfl) ?_
            rintro _ _ _ (⟨rfl, rfl, rfl⟩)
            try dsimp only [zov, Option.toList, List.cons_append, List.nil_append]
            refine z_iload (pc := 48) dX9_noteCell_48 rfl ?_
            refine z_callV (pc := 50) (c_X1_append5 n5 w5) dX9_noteCell_50 l_RX9_293 m_MX1_append n_MX1_append e_MX1_append rfl (by omega) (by assumption) rfl rfl (Nat.le_of_ble_eq_true rfl) ?_
            rintro _ _ _ ⟨⟨rfl, hp, rfl⟩ | ⟨rfl, hp, rfl⟩, rfl⟩
            · skip
              try dsimp only [zov, Option.toList, List.cons_append, List.nil_append]
              refine z_iret (pc := 53) dX9_noteCell_53 rfl ?_
              first
                | (rw [flist_0]; exact l_see_0 hV)
                | exact zPC_same hV (flist_1 hb2 hc)
                | exact zPC_same hV (flist_2 hb2 b2 b4 ha hbb (isR_1 (by decide) hb29))
                | exact zPC_same hV (flist_2 hb2 b2 b4 ha hbb (isR_2 (by decide) (Int32.not_le.mp hb36)))
                | exact zPC_same hV (flist_3 hb2 b2 b4 ha hbb hx hp)
                | (rw [flist_4 hb2 b2 b4 ha hbb hx (by omega)]; exact l_see_1 hV ha hbb hx hp)
                | fail
            · skip
              try dsimp only [zov, Option.toList, List.cons_append, List.nil_append]
              refine z_iret (pc := 53) dX9_noteCell_53 rfl ?_
              first
                | (rw [flist_0]; exact l_see_0 hV)
                | exact zPC_same hV (flist_1 hb2 hc)
                | exact zPC_same hV (flist_2 hb2 b2 b4 ha hbb (isR_1 (by decide) hb29))
                | exact zPC_same hV (flist_2 hb2 b2 b4 ha hbb (isR_2 (by decide) (Int32.not_le.mp hb36)))
                | exact zPC_same hV (flist_3 hb2 b2 b4 ha hbb hx hp)
                | (rw [flist_4 hb2 b2 b4 ha hbb hx (by omega)]; exact l_see_1 hV ha hbb hx hp)
                | fail
          · skip
            refine z_bipush (pc := 39) (v := -2) dX9_noteCell_39 (by decide) ?_
            refine z_iret (pc := 41) dX9_noteCell_41 rfl ?_
            first
              | (rw [flist_0]; exact l_see_0 hV)
              | exact zPC_same hV (flist_1 hb2 hc)
              | exact zPC_same hV (flist_2 hb2 b2 b4 ha hbb (isR_1 (by decide) hb29))
              | exact zPC_same hV (flist_2 hb2 b2 b4 ha hbb (isR_2 (by decide) (Int32.not_le.mp hb36)))
              | exact zPC_same hV (flist_3 hb2 b2 b4 ha hbb hx hp)
              | (rw [flist_4 hb2 b2 b4 ha hbb hx (by omega)]; exact l_see_1 hV ha hbb hx hp)
              | fail
    · skip
      try dsimp only [zov, Option.toList, List.cons_append, List.nil_append]
      first | refine z_if_neN (pc := 22) (tgt := 27) (by with_reducible rfl) dX9_noteCell_22 (by decide) (by omega) (fun hb22 => absurd hb22 (by decide)) (fun hb22 => ?_) | refine z_if_ne (pc := 22) (tgt := 27) dX9_noteCell_22 (by decide) (fun hb22 => absurd hb22 (by decide)) (fun hb22 => ?_)
      · skip
        refine z_iconst (pc := 25) (v := -1) dX9_noteCell_25 (by decide) ?_
        refine z_iret (pc := 26) dX9_noteCell_26 rfl ?_
        first
          | (rw [flist_0]; exact l_see_0 hV)
          | exact zPC_same hV (flist_1 hb2 hc)
          | exact zPC_same hV (flist_2 hb2 b2 b4 ha hbb (isR_1 (by decide) hb29))
          | exact zPC_same hV (flist_2 hb2 b2 b4 ha hbb (isR_2 (by decide) (Int32.not_le.mp hb36)))
          | exact zPC_same hV (flist_3 hb2 b2 b4 ha hbb hx hp)
          | (rw [flist_4 hb2 b2 b4 ha hbb hx (by omega)]; exact l_see_1 hV ha hbb hx hp)
          | fail
  · skip
    subst hb2
    refine z_aload_n (pc := 5) dX9_noteCell_5 rfl rfl ?_
    refine z_callV (pc := 6) (c_X1_empty n5) dX9_noteCell_6 l_RX9_288 m_MX1_empty n_MX1_empty e_MX1_empty rfl (by omega) (by assumption) rfl rfl (Nat.le_of_ble_eq_true rfl) ?_
    rintro _ _ _ (⟨rfl, rfl, rfl⟩)
    try dsimp only [zov, Option.toList, List.cons_append, List.nil_append]
    refine z_iret (pc := 9) dX9_noteCell_9 rfl ?_
    first
      | (rw [flist_0]; exact l_see_0 hV)
      | exact zPC_same hV (flist_1 hb2 hc)
      | exact zPC_same hV (flist_2 hb2 b2 b4 ha hbb (isR_1 (by decide) hb29))
      | exact zPC_same hV (flist_2 hb2 b2 b4 ha hbb (isR_2 (by decide) (Int32.not_le.mp hb36)))
      | exact zPC_same hV (flist_3 hb2 b2 b4 ha hbb hx hp)
      | (rw [flist_4 hb2 b2 b4 ha hbb hx (by omega)]; exact l_see_1 hV ha hbb hx hp)
      | fail
set_option maxHeartbeats 2000000 in
set_option maxRecDepth 20000 in
theorem c_X9_see {lay : List zL} {I : zI} {J : zJ} {S : zS} (hC : kC lay) (hV : vC I J S) {i j v : Int32} : zMet lay MX9_see 4 [.ref 0, .int i, .int j, .int v] I J (fun r I' J' => zPC I J (flist S 4 52 5 i j v) r I' J') := by
  refine zMet_of (t := MX9_see) (ls := [.ref 0, .int i, .int j, .int v]) (by decide +kernel) (Nat.le_of_ble_eq_true rfl) rfl ?_
  obtain ⟨c0, ⟨cP, cG⟩, ⟨cX, cQ, cR⟩, ⟨cS, cB, cD⟩, cf1, cf2, cf3, cU⟩ := id hC
  have p0 : lay[1]? = some (.inl (2, [4, 8, 13, 16, 19])) := cP.1
  have s0 : kS lay 2 := cP.2.1
  obtain ⟨s1, s2, s3, s4⟩ := id s0
  have t0 : kT lay 6 := cP.2.2.1
  obtain ⟨t1, t2, t3, t4, t5⟩ := id t0
  have n5 : kN lay 11 5 := cP.2.2.2.1
  have n8 : kN lay 14 8 := cP.2.2.2.2.1
  have m8 : kN lay 17 8 := cP.2.2.2.2.2
  have w0 : vS I 2 S.n := hV.1.1.1
  have w1 : vT I J 6 S.n := hV.1.1.2.1
  have w5 : vN I 11 5 (S.n 4) (fun k => S.n (52 + k) / 100) (fun k => S.n (52 + k) % 100) := hV.1.1.2.2.1
  have w8 : vN I 14 8 (S.n 5) (fun k => S.n (57 + k) / 100) (fun k => S.n (57 + k) % 100) := hV.1.1.2.2.2.1
  have x8 : vN I 17 8 (S.n 6) (fun k => S.n (65 + k) / 100) (fun k => S.n (65 + k) % 100) := hV.1.1.2.2.2.2
  obtain ⟨v0, v1, v2, v3, v4, v5⟩ := id w0
  obtain ⟨y0, y1, y2⟩ := id w1
  have hbN := hV.1.2
  have hB := hbN.1
  have hT := hbN.2.1
  obtain ⟨b1, b2, b3, b4, b5, b6, b7, b8⟩ := id hB
  have ox := cX.1
  have oq := cQ.1
  have ow := cR.1
  have od := cD.1
  have oe := cB.1
  have of1 := cS.1
  have of2 := cS.2.1
  have ou := cU.1
  have og := cG.1
  have on5 := n5.1
  have on8 := n8.1
  have om8 := m8.1
  have ov := cR.2.1.1
  have z1 := cf1
  have z2 := cf2
  have z3 := cf3
  unfold kF at z1 z2 z3
  refine z_aload_n (pc := 0) dX9_see_0 rfl rfl ?_
  refine z_aload_n (pc := 1) dX9_see_1 rfl rfl ?_
  refine z_getR (pc := 2) dX9_see_2 f_RX9_12 (by assumption) rfl ?_
  refine z_getR (pc := 5) dX9_see_5 f_RX9_280 (by assumption) rfl ?_
  refine z_iload_n (pc := 8) dX9_see_8 rfl rfl ?_
  refine z_iload_n (pc := 9) dX9_see_9 rfl rfl ?_
  refine z_iload_n (pc := 10) dX9_see_10 rfl rfl ?_
  refine z_callV (pc := 11) (c_X9_noteCell_see hC hV) dX9_see_11 l_RX9_284 m_MX9_noteCell n_MX9_noteCell e_MX9_noteCell rfl (by omega) (by assumption) rfl rfl (Nat.le_of_ble_eq_true rfl) ?_
  rintro _ _ _ (hp)
  obtain ⟨x9, e9⟩ := flist_i (S := S) (m := 4) (o := 52) (most := 5) (i := i) (j := j) (v := v)
  obtain rfl := hp.1.trans e9
  try dsimp only [zov, Option.toList, List.cons_append, List.nil_append]
  refine z_iret (pc := 14) dX9_see_14 rfl ?_
  exact hp
theorem l_book_0 {I : zI} {J : zJ} {S : zS} (hV : vC I J S) : zPC I J (.int (nI 0), S.up (zset1 S.n 6 0)) (.int (nI 0)) (zup I 17 1 (nI 0)) J := by
  have w0 : vS I 2 S.n := hV.1.1.1
  have w1 : vT I J 6 S.n := hV.1.1.2.1
  have w5 : vN I 11 5 (S.n 4) (fun k => S.n (52 + k) / 100) (fun k => S.n (52 + k) % 100) := hV.1.1.2.2.1
  have w8 : vN I 14 8 (S.n 5) (fun k => S.n (57 + k) / 100) (fun k => S.n (57 + k) % 100) := hV.1.1.2.2.2.1
  have x8 : vN I 17 8 (S.n 6) (fun k => S.n (65 + k) / 100) (fun k => S.n (65 + k) % 100) := hV.1.1.2.2.2.2
  have hb := vC_b hV
  have hs : ∀ k, k ≠ 6 → zset1 S.n 6 0 k = S.n k := fun k h => zset1_o h
  have hm : zset1 S.n 6 0 6 = 0 := zset1_s
  refine zPC_now hV (fun x q1 q2 => zup_o (by omega)) (fun _ _ _ => rfl) ⟨vS_to (vS_n w0 (fun k hk => hs k (by omega))) (zup_o (by omega)) (zup_o (by omega)) (zup_o (by omega)) (zup_o (by omega)), vT_to (vT_n w1 (fun k hk => hs k (by omega))) (zup_o (by omega)) rfl rfl, ?_, ?_, ?_⟩ ?_ rfl
  · exact vNc w5 (fun x q1 q2 => zup_o (by omega)) (hs 4 (by omega)) (fun k hk => by show zset1 S.n 6 0 (52 + k) / 100 = _; rw [hs (52 + k) (by omega)]) (fun k hk => by show zset1 S.n 6 0 (52 + k) % 100 = _; rw [hs (52 + k) (by omega)])
  · exact vNc w8 (fun x q1 q2 => zup_o (by omega)) (hs 5 (by omega)) (fun k hk => by show zset1 S.n 6 0 (57 + k) / 100 = _; rw [hs (57 + k) (by omega)]) (fun k hk => by show zset1 S.n 6 0 (57 + k) % 100 = _; rw [hs (57 + k) (by omega)])
  · rw [hm]; exact vNa x8
  · obtain ⟨q1, q2, q3, q4, q5, q6⟩ := hb
    refine ⟨bS_to q1 (fun k hk => hs k (by omega)), zset1_bT q2 (by omega), ?_, fun k hk => ?_, fun k hk => ?_, fun k hk => ?_⟩
    · refine ⟨?_, ?_, ?_⟩
      all_goals first | (rw [hm]; omega) | (rw [hs _ (by omega)]; omega)
    all_goals first
      | (rw [hm] at hk; exact absurd hk (by omega))
      | (rw [hs _ (by omega)] at hk; unfold zls1; rw [hs 0 (by omega), hs 1 (by omega), hs _ (by omega)]; first | exact q4 k hk | exact q6 k hk)
      | (rw [hs _ (by omega)] at hk; unfold zevok; rw [hs 0 (by omega), hs 1 (by omega), hs _ (by omega)]; exact q5 k hk)
theorem l_book_1 {I : zI} {J : zJ} {S : zS} {a b x : Nat} (hV : vC I J S) (ha : a < S.n 0) (hbb : b < S.n 1) (hx : x ≤ 60) (hc : S.n 6 < 8) : zPC I J (.int (nI (S.n 6 + 1)), S.up (zset1 (zset1 S.n (65 + S.n 6) (100 * (3 * a + b) + x)) 6 (S.n 6 + 1))) (.int (nI (S.n 6 + 1))) (zup (zup (zup I (17 + 1) (S.n 6) (nI (3 * a + b))) (17 + 2) (S.n 6) (nI x)) 17 1 (nI (S.n 6 + 1))) J := by
  have w0 : vS I 2 S.n := hV.1.1.1
  have w1 : vT I J 6 S.n := hV.1.1.2.1
  have w5 : vN I 11 5 (S.n 4) (fun k => S.n (52 + k) / 100) (fun k => S.n (52 + k) % 100) := hV.1.1.2.2.1
  have w8 : vN I 14 8 (S.n 5) (fun k => S.n (57 + k) / 100) (fun k => S.n (57 + k) % 100) := hV.1.1.2.2.2.1
  have x8 : vN I 17 8 (S.n 6) (fun k => S.n (65 + k) / 100) (fun k => S.n (65 + k) % 100) := hV.1.1.2.2.2.2
  have hb := vC_b hV
  obtain ⟨b1, b2, b3, b4, _⟩ := id hb.1
  have h44 := hb.2.2.1
  have hg : ∃ n', n' = zset1 (zset1 S.n (65 + S.n 6) (100 * (3 * a + b) + x)) 6 (S.n 6 + 1) := ⟨_, rfl⟩
  obtain ⟨n', hn'⟩ := hg
  have hs : ∀ k, k ≠ 6 → k ≠ 65 + S.n 6 → n' k = S.n k := fun k h h2 => by rw [hn', zset1_o h, zset1_o h2]
  have hm : n' 6 = S.n 6 + 1 := by rw [hn']; exact zset1_s
  have ho : n' (65 + S.n 6) = 100 * (3 * a + b) + x := by rw [hn', zset1_o (by omega)]; exact zset1_s
  rw [← hn']
  refine zPC_now hV (fun x q1 q2 => by rw [zup_o (by omega), zup_o (by omega), zup_o (by omega)]) (fun _ _ _ => rfl) ⟨vS_to (vS_n w0 (fun k hk => hs k (by omega) (by omega))) (by rw [zup_o (by omega), zup_o (by omega), zup_o (by omega)]) (by rw [zup_o (by omega), zup_o (by omega), zup_o (by omega)]) (by rw [zup_o (by omega), zup_o (by omega), zup_o (by omega)]) (by rw [zup_o (by omega), zup_o (by omega), zup_o (by omega)]), vT_to (vT_n w1 (fun k hk => hs k (by omega) (by omega))) (by rw [zup_o (by omega), zup_o (by omega), zup_o (by omega)]) rfl rfl, ?_, ?_, ?_⟩ ?_ rfl
  · exact vNc w5 (fun x q1 q2 => by rw [zup_o (by omega), zup_o (by omega), zup_o (by omega)]) (hs 4 (by omega) (by omega)) (fun k hk => by show n' (52 + k) / 100 = _; rw [hs (52 + k) (by omega) (by omega)]) (fun k hk => by show n' (52 + k) % 100 = _; rw [hs (52 + k) (by omega) (by omega)])
  · exact vNc w8 (fun x q1 q2 => by rw [zup_o (by omega), zup_o (by omega), zup_o (by omega)]) (hs 5 (by omega) (by omega)) (fun k hk => by show n' (57 + k) / 100 = _; rw [hs (57 + k) (by omega) (by omega)]) (fun k hk => by show n' (57 + k) % 100 = _; rw [hs (57 + k) (by omega) (by omega)])
  · rw [hm]; exact vNb x8 hc (fun k hk => by show n' (65 + k) / 100 = _; rw [hs (65 + k) (by omega) (by omega)]) (fun k hk => by show n' (65 + k) % 100 = _; rw [hs (65 + k) (by omega) (by omega)]) (by show n' (65 + S.n 6) / 100 = _; rw [ho]; omega) (by show n' (65 + S.n 6) % 100 = _; rw [ho]; omega)
  · obtain ⟨q1, q2, q3, q4, q5, q6⟩ := hb
    refine ⟨bS_to q1 (fun k hk => hs k (by omega) (by omega)), fun k hk => ?_, ?_, fun k hk => ?_, fun k hk => ?_, fun k hk => ?_⟩
    · rw [hs _ (by omega) (by omega), hs _ (by omega) (by omega)]; exact q2 k hk
    · refine ⟨?_, ?_, ?_⟩
      all_goals first | (rw [hm]; omega) | (rw [hs _ (by omega) (by omega)]; omega)
    all_goals first
      | (rw [hm] at hk
         unfold zls1
         rw [hs 0 (by omega) (by omega), hs 1 (by omega) (by omega)]
         by_cases q : k = S.n 6
         · rw [q, ho]; omega
         · rw [hs _ (by omega) (by omega)]; first | exact q4 k (by omega) | exact q6 k (by omega))
      | (rw [hs _ (by omega) (by omega)] at hk; unfold zls1; rw [hs 0 (by omega) (by omega), hs 1 (by omega) (by omega), hs _ (by omega) (by omega)]; first | exact q4 k hk | exact q6 k hk)
      | (rw [hs _ (by omega) (by omega)] at hk; unfold zevok; rw [hs 0 (by omega) (by omega), hs 1 (by omega) (by omega), hs _ (by omega) (by omega)]; exact q5 k hk)
set_option maxHeartbeats 2000000 in
set_option maxRecDepth 20000 in
theorem c_X9_noteCell_book {lay : List zL} {I : zI} {J : zJ} {S : zS} (hC : kC lay) (hV : vC I J S) {i j v : Int32} : zMet lay MX9_noteCell 3 [.ref 0, .ref 17, .int i, .int j, .int v] I J (fun r I' J' => zPC I J (flist S 6 65 8 i j v) r I' J') := by
  refine zMet_of (t := MX9_noteCell) (ls := [.ref 0, .ref 17, .int i, .int j, .int v]) (by decide +kernel) (Nat.le_of_ble_eq_true rfl) rfl ?_
  obtain ⟨c0, ⟨cP, cG⟩, ⟨cX, cQ, cR⟩, ⟨cS, cB, cD⟩, cf1, cf2, cf3, cU⟩ := id hC
  have p0 : lay[1]? = some (.inl (2, [4, 8, 13, 16, 19])) := cP.1
  have s0 : kS lay 2 := cP.2.1
  obtain ⟨s1, s2, s3, s4⟩ := id s0
  have t0 : kT lay 6 := cP.2.2.1
  obtain ⟨t1, t2, t3, t4, t5⟩ := id t0
  have n5 : kN lay 11 5 := cP.2.2.2.1
  have n8 : kN lay 14 8 := cP.2.2.2.2.1
  have m8 : kN lay 17 8 := cP.2.2.2.2.2
  have w0 : vS I 2 S.n := hV.1.1.1
  have w1 : vT I J 6 S.n := hV.1.1.2.1
  have w5 : vN I 11 5 (S.n 4) (fun k => S.n (52 + k) / 100) (fun k => S.n (52 + k) % 100) := hV.1.1.2.2.1
  have w8 : vN I 14 8 (S.n 5) (fun k => S.n (57 + k) / 100) (fun k => S.n (57 + k) % 100) := hV.1.1.2.2.2.1
  have x8 : vN I 17 8 (S.n 6) (fun k => S.n (65 + k) / 100) (fun k => S.n (65 + k) % 100) := hV.1.1.2.2.2.2
  obtain ⟨v0, v1, v2, v3, v4, v5⟩ := id w0
  obtain ⟨y0, y1, y2⟩ := id w1
  have hbN := hV.1.2
  have hB := hbN.1
  have hT := hbN.2.1
  obtain ⟨b1, b2, b3, b4, b5, b6, b7, b8⟩ := id hB
  have ox := cX.1
  have oq := cQ.1
  have ow := cR.1
  have od := cD.1
  have oe := cB.1
  have of1 := cS.1
  have of2 := cS.2.1
  have ou := cU.1
  have og := cG.1
  have on5 := n5.1
  have on8 := n8.1
  have om8 := m8.1
  have ov := cR.2.1.1
  have z1 := cf1
  have z2 := cf2
  have z3 := cf3
  unfold kF at z1 z2 z3
  refine z_iload_n (pc := 0) dX9_noteCell_0 rfl rfl ?_
  refine z_iconst (pc := 1) (v := -1) dX9_noteCell_1 (by decide) ?_
  refine z_icmp_ne (pc := 2) (tgt := 10) dX9_noteCell_2 (by decide) (fun hb2 => ?_) (fun hb2 => ?_)
  · skip
    refine z_aload_n (pc := 10) dX9_noteCell_10 rfl rfl ?_
    refine z_getR (pc := 11) dX9_noteCell_11 f_RX9_12 (by assumption) rfl ?_
    refine z_getR (pc := 14) dX9_noteCell_14 f_RX9_83 (by assumption) rfl ?_
    refine z_iload_n (pc := 17) dX9_noteCell_17 rfl rfl ?_
    refine z_iload_n (pc := 18) dX9_noteCell_18 rfl rfl ?_
    refine z_callV (pc := 19) (c_X6_hasCell s0 w0 hB) dX9_noteCell_19 l_RX9_90 m_MX6_hasCell n_MX6_hasCell e_MX6_hasCell rfl (by omega) (by assumption) rfl rfl (Nat.le_of_ble_eq_true rfl) ?_
    rintro _ _ _ ⟨⟨rfl, hc⟩ | ⟨rfl, hc⟩, rfl, rfl⟩
    · obtain ⟨a, b, rfl, rfl, ha, hbb⟩ := hc; have hk : 3 * a + b < 9 := (by omega)
      try dsimp only [zov, Option.toList, List.cons_append, List.nil_append]
      first | refine z_if_neN (pc := 22) (tgt := 27) (by with_reducible rfl) dX9_noteCell_22 (by decide) (by omega) (fun hb22 => ?_) (fun hb22 => absurd hb22 (by decide)) | refine z_if_ne (pc := 22) (tgt := 27) dX9_noteCell_22 (by decide) (fun hb22 => ?_) (fun hb22 => absurd hb22 (by decide))
      · skip
        refine z_iload (pc := 27) dX9_noteCell_27 rfl ?_
        first | refine z_if_ltN (pc := 29) (tgt := 39) (by with_reducible rfl) dX9_noteCell_29 (by decide) (by omega) (fun hb29 => ?_) (fun hb29 => ?_) | refine z_if_lt (pc := 29) (tgt := 39) dX9_noteCell_29 (by decide) (fun hb29 => ?_) (fun hb29 => ?_)
        · skip
          refine z_bipush (pc := 39) (v := -2) dX9_noteCell_39 (by decide) ?_
          refine z_iret (pc := 41) dX9_noteCell_41 rfl ?_
          first
            | (rw [flist_0]; exact l_book_0 hV)
            | exact zPC_same hV (flist_1 hb2 hc)
            | exact zPC_same hV (flist_2 hb2 b2 b4 ha hbb (isR_1 (by decide) hb29))
            | exact zPC_same hV (flist_2 hb2 b2 b4 ha hbb (isR_2 (by decide) (Int32.not_le.mp hb36)))
            | exact zPC_same hV (flist_3 hb2 b2 b4 ha hbb hx hp)
            | (rw [flist_4 hb2 b2 b4 ha hbb hx (by omega)]; exact l_book_1 hV ha hbb hx hp)
            | fail
        · skip
          refine z_iload (pc := 32) dX9_noteCell_32 rfl ?_
          refine z_bipush (pc := 34) (v := nI 60) dX9_noteCell_34 (by decide) ?_
          first | refine z_icmp_leN (pc := 36) (tgt := 42) (by with_reducible rfl) (by with_reducible rfl) dX9_noteCell_36 (by decide) (by omega) (by omega) (fun hb36 => ?_) (fun hb36 => ?_) | refine z_icmp_le (pc := 36) (tgt := 42) dX9_noteCell_36 (by decide) (fun hb36 => ?_) (fun hb36 => ?_)
          · skip
            obtain ⟨x, rfl, hx⟩ := nI_get2 (m := 60) (by omega) hb29 (Int32.not_lt.mpr hb36)
            refine z_aload_n (pc := 42) dX9_noteCell_42 rfl rfl ?_
            refine z_iload_n (pc := 43) dX9_noteCell_43 rfl rfl ?_
            refine z_iload_n (pc := 44) dX9_noteCell_44 rfl rfl ?_
            refine z_callS (pc := 45) c_X9_place dX9_noteCell_45 l_RX9_98 m_MX9_place s_MX9_place rfl (by omega) rfl (Nat.le_of_ble_eq_true rfl) ?_
            rintro _ _ _ (⟨rfl, rfl, rfl⟩)
            try dsimp only [zov, Option.toList, List.cons_append, List.nil_append]
            refine z_iload (pc := 48) dX9_noteCell_48 rfl ?_
            refine z_callV (pc := 50) (c_X1_append8 m8 x8) dX9_noteCell_50 l_RX9_293 m_MX1_append n_MX1_append e_MX1_append rfl (by omega) (by assumption) rfl rfl (Nat.le_of_ble_eq_true rfl) ?_
            rintro _ _ _ ⟨⟨rfl, hp, rfl⟩ | ⟨rfl, hp, rfl⟩, rfl⟩
            · skip
              try dsimp only [zov, Option.toList, List.cons_append, List.nil_append]
              refine z_iret (pc := 53) dX9_noteCell_53 rfl ?_
              first
                | (rw [flist_0]; exact l_book_0 hV)
                | exact zPC_same hV (flist_1 hb2 hc)
                | exact zPC_same hV (flist_2 hb2 b2 b4 ha hbb (isR_1 (by decide) hb29))
                | exact zPC_same hV (flist_2 hb2 b2 b4 ha hbb (isR_2 (by decide) (Int32.not_le.mp hb36)))
                | exact zPC_same hV (flist_3 hb2 b2 b4 ha hbb hx hp)
                | (rw [flist_4 hb2 b2 b4 ha hbb hx (by omega)]; exact l_book_1 hV ha hbb hx hp)
                | fail
            · skip
              try dsimp only [zov, Option.toList, List.cons_append, List.nil_append]
              refine z_iret (pc := 53) dX9_noteCell_53 rfl ?_
              first
                | (rw [flist_0]; exact l_book_0 hV)
                | exact zPC_same hV (flist_1 hb2 hc)
                | exact zPC_same hV (flist_2 hb2 b2 b4 ha hbb (isR_1 (by decide) hb29))
                | exact zPC_same hV (flist_2 hb2 b2 b4 ha hbb (isR_2 (by decide) (Int32.not_le.mp hb36)))
                | exact zPC_same hV (flist_3 hb2 b2 b4 ha hbb hx hp)
                | (rw [flist_4 hb2 b2 b4 ha hbb hx (by omega)]; exact l_book_1 hV ha hbb hx hp)
                | fail
          · skip
            refine z_bipush (pc := 39) (v := -2) dX9_noteCell_39 (by decide) ?_
            refine z_iret (pc := 41) dX9_noteCell_41 rfl ?_
            first
              | (rw [flist_0]; exact l_book_0 hV)
              | exact zPC_same hV (flist_1 hb2 hc)
              | exact zPC_same hV (flist_2 hb2 b2 b4 ha hbb (isR_1 (by decide) hb29))
              | exact zPC_same hV (flist_2 hb2 b2 b4 ha hbb (isR_2 (by decide) (Int32.not_le.mp hb36)))
              | exact zPC_same hV (flist_3 hb2 b2 b4 ha hbb hx hp)
              | (rw [flist_4 hb2 b2 b4 ha hbb hx (by omega)]; exact l_book_1 hV ha hbb hx hp)
              | fail
    · skip
      try dsimp only [zov, Option.toList, List.cons_append, List.nil_append]
      first | refine z_if_neN (pc := 22) (tgt := 27) (by with_reducible rfl) dX9_noteCell_22 (by decide) (by omega) (fun hb22 => absurd hb22 (by decide)) (fun hb22 => ?_) | refine z_if_ne (pc := 22) (tgt := 27) dX9_noteCell_22 (by decide) (fun hb22 => absurd hb22 (by decide)) (fun hb22 => ?_)
      · skip
        refine z_iconst (pc := 25) (v := -1) dX9_noteCell_25 (by decide) ?_
        refine z_iret (pc := 26) dX9_noteCell_26 rfl ?_
        first
          | (rw [flist_0]; exact l_book_0 hV)
          | exact zPC_same hV (flist_1 hb2 hc)
          | exact zPC_same hV (flist_2 hb2 b2 b4 ha hbb (isR_1 (by decide) hb29))
          | exact zPC_same hV (flist_2 hb2 b2 b4 ha hbb (isR_2 (by decide) (Int32.not_le.mp hb36)))
          | exact zPC_same hV (flist_3 hb2 b2 b4 ha hbb hx hp)
          | (rw [flist_4 hb2 b2 b4 ha hbb hx (by omega)]; exact l_book_1 hV ha hbb hx hp)
          | fail
  · skip
    subst hb2
    refine z_aload_n (pc := 5) dX9_noteCell_5 rfl rfl ?_
    refine z_callV (pc := 6) (c_X1_empty m8) dX9_noteCell_6 l_RX9_288 m_MX1_empty n_MX1_empty e_MX1_empty rfl (by omega) (by assumption) rfl rfl (Nat.le_of_ble_eq_true rfl) ?_
    rintro _ _ _ (⟨rfl, rfl, rfl⟩)
    try dsimp only [zov, Option.toList, List.cons_append, List.nil_append]
    refine z_iret (pc := 9) dX9_noteCell_9 rfl ?_
    first
      | (rw [flist_0]; exact l_book_0 hV)
      | exact zPC_same hV (flist_1 hb2 hc)
      | exact zPC_same hV (flist_2 hb2 b2 b4 ha hbb (isR_1 (by decide) hb29))
      | exact zPC_same hV (flist_2 hb2 b2 b4 ha hbb (isR_2 (by decide) (Int32.not_le.mp hb36)))
      | exact zPC_same hV (flist_3 hb2 b2 b4 ha hbb hx hp)
      | (rw [flist_4 hb2 b2 b4 ha hbb hx (by omega)]; exact l_book_1 hV ha hbb hx hp)
      | fail
set_option maxHeartbeats 2000000 in
set_option maxRecDepth 20000 in
theorem c_X9_book {lay : List zL} {I : zI} {J : zJ} {S : zS} (hC : kC lay) (hV : vC I J S) {i j v : Int32} : zMet lay MX9_book 4 [.ref 0, .int i, .int j, .int v] I J (fun r I' J' => zPC I J (flist S 6 65 8 i j v) r I' J') := by
  refine zMet_of (t := MX9_book) (ls := [.ref 0, .int i, .int j, .int v]) (by decide +kernel) (Nat.le_of_ble_eq_true rfl) rfl ?_
  obtain ⟨c0, ⟨cP, cG⟩, ⟨cX, cQ, cR⟩, ⟨cS, cB, cD⟩, cf1, cf2, cf3, cU⟩ := id hC
  have p0 : lay[1]? = some (.inl (2, [4, 8, 13, 16, 19])) := cP.1
  have s0 : kS lay 2 := cP.2.1
  obtain ⟨s1, s2, s3, s4⟩ := id s0
  have t0 : kT lay 6 := cP.2.2.1
  obtain ⟨t1, t2, t3, t4, t5⟩ := id t0
  have n5 : kN lay 11 5 := cP.2.2.2.1
  have n8 : kN lay 14 8 := cP.2.2.2.2.1
  have m8 : kN lay 17 8 := cP.2.2.2.2.2
  have w0 : vS I 2 S.n := hV.1.1.1
  have w1 : vT I J 6 S.n := hV.1.1.2.1
  have w5 : vN I 11 5 (S.n 4) (fun k => S.n (52 + k) / 100) (fun k => S.n (52 + k) % 100) := hV.1.1.2.2.1
  have w8 : vN I 14 8 (S.n 5) (fun k => S.n (57 + k) / 100) (fun k => S.n (57 + k) % 100) := hV.1.1.2.2.2.1
  have x8 : vN I 17 8 (S.n 6) (fun k => S.n (65 + k) / 100) (fun k => S.n (65 + k) % 100) := hV.1.1.2.2.2.2
  obtain ⟨v0, v1, v2, v3, v4, v5⟩ := id w0
  obtain ⟨y0, y1, y2⟩ := id w1
  have hbN := hV.1.2
  have hB := hbN.1
  have hT := hbN.2.1
  obtain ⟨b1, b2, b3, b4, b5, b6, b7, b8⟩ := id hB
  have ox := cX.1
  have oq := cQ.1
  have ow := cR.1
  have od := cD.1
  have oe := cB.1
  have of1 := cS.1
  have of2 := cS.2.1
  have ou := cU.1
  have og := cG.1
  have on5 := n5.1
  have on8 := n8.1
  have om8 := m8.1
  have ov := cR.2.1.1
  have z1 := cf1
  have z2 := cf2
  have z3 := cf3
  unfold kF at z1 z2 z3
  refine z_aload_n (pc := 0) dX9_book_0 rfl rfl ?_
  refine z_aload_n (pc := 1) dX9_book_1 rfl rfl ?_
  refine z_getR (pc := 2) dX9_book_2 f_RX9_12 (by assumption) rfl ?_
  refine z_getR (pc := 5) dX9_book_5 f_RX9_323 (by assumption) rfl ?_
  refine z_iload_n (pc := 8) dX9_book_8 rfl rfl ?_
  refine z_iload_n (pc := 9) dX9_book_9 rfl rfl ?_
  refine z_iload_n (pc := 10) dX9_book_10 rfl rfl ?_
  refine z_callV (pc := 11) (c_X9_noteCell_book hC hV) dX9_book_11 l_RX9_284 m_MX9_noteCell n_MX9_noteCell e_MX9_noteCell rfl (by omega) (by assumption) rfl rfl (Nat.le_of_ble_eq_true rfl) ?_
  rintro _ _ _ (hp)
  obtain ⟨x9, e9⟩ := flist_i (S := S) (m := 6) (o := 65) (most := 8) (i := i) (j := j) (v := v)
  obtain rfl := hp.1.trans e9
  try dsimp only [zov, Option.toList, List.cons_append, List.nil_append]
  refine z_iret (pc := 14) dX9_book_14 rfl ?_
  exact hp
