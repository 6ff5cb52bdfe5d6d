/-! ===== the class's calls: judging ===== -/
set_option maxHeartbeats 2000000 in
set_option maxRecDepth 20000 in
theorem l_X9_judge {lay : List zL} {Q : Value → zI → zJ → Prop} {S : zS} {d0 a b : Nat} {v : Nat → Nat} {I : zI} {J : zJ} (hC : kC lay) (hV : vC I J S) (ha9 : zagr I 59 S.n v 9) (ha : a < 6) (hb : b < 2147483648) : ∀ (m i j d : Nat), 4 * (S.n 0 - i) + (S.n 1 - j) < m → i < S.n 0 → j ≤ S.n 1 → d ≤ S.le a → Q (.int (zjd S v a b d (zl (S.n 0) (S.n 1) (3 * i + j)))) I J → Z lay MX9_judge (d0 + 2) 91 [.ref 0, .int (nI a), .int (nI b), .int (nI d), .int (nI i), .int (nI j)] [] I J Q := by
  obtain ⟨c0, ⟨cP, cG⟩, ⟨cX, cQ, cR⟩, ⟨cS, cB, cD⟩, cf1, cf2, cf3, cU⟩ := id hC
  have p0 : lay[1]? = some (.inl (2, [4, 8, 13, 16, 19])) := cP.1
  have s0 : kS lay 2 := cP.2.1
  obtain ⟨s1, s2, s3, s4⟩ := id s0
  have t0 : kT lay 6 := cP.2.2.1
  obtain ⟨t1, t2, t3, t4, t5⟩ := id t0
  have n5 : kN lay 11 5 := cP.2.2.2.1
  have n8 : kN lay 14 8 := cP.2.2.2.2.1
  have m8 : kN lay 17 8 := cP.2.2.2.2.2
  have w0 : vS I 2 S.n := hV.1.1.1
  have w1 : vT I J 6 S.n := hV.1.1.2.1
  have w5 : vN I 11 5 (S.n 4) (fun k => S.n (52 + k) / 100) (fun k => S.n (52 + k) % 100) := hV.1.1.2.2.1
  have w8 : vN I 14 8 (S.n 5) (fun k => S.n (57 + k) / 100) (fun k => S.n (57 + k) % 100) := hV.1.1.2.2.2.1
  have x8 : vN I 17 8 (S.n 6) (fun k => S.n (65 + k) / 100) (fun k => S.n (65 + k) % 100) := hV.1.1.2.2.2.2
  obtain ⟨v0, v1, v2, v3, v4, v5⟩ := id w0
  obtain ⟨y0, y1, y2⟩ := id w1
  have hbN := hV.1.2
  have hB := hbN.1
  have hT := hbN.2.1
  obtain ⟨b1, b2, b3, b4, b5, b6, b7, b8⟩ := id hB
  have ox := cX.1
  have oq := cQ.1
  have ow := cR.1
  have od := cD.1
  have oe := cB.1
  have of1 := cS.1
  have of2 := cS.2.1
  have ou := cU.1
  have og := cG.1
  have on5 := n5.1
  have on8 := n8.1
  have om8 := m8.1
  have ov := cR.2.1.1
  have z1 := cf1
  have z2 := cf2
  have z3 := cf3
  unfold kF at z1 z2 z3
  have hQ := hV.2.2.2.2
  have hlb := hQ.2.2.2
  have hl60 := (hlb a ha).1
  intro m
  induction m with
  | zero => intro i j d h; exact absurd h (by omega)
  | succ m ih =>
    intro i j d hm hi hj hd hq
    refine z_iload (pc := 91) dX9_judge_91 rfl ?_
    refine z_aload_n (pc := 93) dX9_judge_93 rfl rfl ?_
    refine z_getR (pc := 94) dX9_judge_94 f_RX9_12 (by assumption) rfl ?_
    refine z_getR (pc := 97) dX9_judge_97 f_RX9_83 (by assumption) rfl ?_
    refine z_getIv (pc := 100) dX9_judge_100 f_RX9_237 (by assumption) rfl (by first | assumption | exact (ha9 _ (by omega) (by omega) (by omega)).1 | rfl) ?_
    first | refine z_icmp_geN (pc := 103) (tgt := 171) (by with_reducible rfl) (by with_reducible rfl) dX9_judge_103 (by decide) (by omega) (by omega) (fun hb103 => ?_) (fun hb103 => ?_) | refine z_icmp_ge (pc := 103) (tgt := 171) dX9_judge_103 (by decide) (fun hb103 => ?_) (fun hb103 => ?_)
    · skip
      first | refine z_iincN (pc := 171) (c := 1) dX9_judge_171 rfl (by with_reducible rfl) (by decide) (by decide) rfl ?_ | refine z_iinc (pc := 171) dX9_judge_171 rfl rfl (by decide) rfl ?_
      try dsimp only [zst1, zst2, zk]
      refine z_goto (pc := 174) (tgt := 73) dX9_judge_174 (by decide) ?_
      refine z_iload (pc := 73) dX9_judge_73 rfl ?_
      refine z_aload_n (pc := 75) dX9_judge_75 rfl rfl ?_
      refine z_getR (pc := 76) dX9_judge_76 f_RX9_12 (by assumption) rfl ?_
      refine z_getR (pc := 79) dX9_judge_79 f_RX9_83 (by assumption) rfl ?_
      refine z_getIv (pc := 82) dX9_judge_82 f_RX9_234 (by assumption) rfl (by first | assumption | exact (ha9 _ (by omega) (by omega) (by omega)).1 | rfl) ?_
      first | refine z_icmp_geN (pc := 85) (tgt := 177) (by with_reducible rfl) (by with_reducible rfl) dX9_judge_85 (by decide) (by omega) (by omega) (fun hb85 => ?_) (fun hb85 => ?_) | refine z_icmp_ge (pc := 85) (tgt := 177) dX9_judge_85 (by decide) (fun hb85 => ?_) (fun hb85 => ?_)
      · skip
        refine z_bipush (pc := 177) (v := -5) dX9_judge_177 (by decide) ?_
        refine z_iret (pc := 179) dX9_judge_179 rfl ?_
        first
          | (rw [zl_in _ b2 _ b4 _ hi _ (by omega)] at hq; simp only [zjd] at hq; rw [if_neg (by omega)] at hq; exact hq)
          | (rw [zl_in _ b2 _ b4 _ hi _ (by omega)] at hq; simp only [zjd] at hq; rw [if_pos (by omega), if_neg hb156] at hq; exact hq)
          | (obtain rfl : j = S.n 1 := (by omega); obtain h9 : i + 1 = S.n 0 := (by omega); rw [zl_row _ b2 _ b4 _ hi, h9, zl_end _ b2 _ b4] at hq; exact hq)
          | fail
      · skip
        refine z_iconst (pc := 88) (v := nI 0) dX9_judge_88 (by decide) ?_
        refine z_istore (pc := 89) dX9_judge_89 (by decide) rfl ?_
        try dsimp only [zst1, zst2, zk]
        first
          | exact ih i (j + 1) (d + 1) (by omega) hi (by omega) (by omega) (by rw [zl_in _ b2 _ b4 _ hi _ (by omega)] at hq; simp only [zjd] at hq; rw [if_pos (by omega), if_pos hb156] at hq; exact hq)
          | exact ih (i + 1) 0 d (by omega) (by omega) (by omega) hd (by obtain rfl : j = S.n 1 := (by omega); rw [zl_row _ b2 _ b4 _ hi] at hq; exact hq)
          | fail
    · skip
      refine z_iload_n (pc := 106) dX9_judge_106 rfl rfl ?_
      first | refine z_if_ltN (pc := 107) (tgt := 124) (by with_reducible rfl) dX9_judge_107 (by decide) (by omega) (fun hb107 => absurd hb107 id) (fun hb107 => ?_) | refine z_if_lt (pc := 107) (tgt := 124) dX9_judge_107 (by decide) (fun hb107 => absurd hb107 id) (fun hb107 => ?_)
      · skip
        refine z_iload_n (pc := 110) dX9_judge_110 rfl rfl ?_
        refine z_aload_n (pc := 111) dX9_judge_111 rfl rfl ?_
        refine z_getR (pc := 112) dX9_judge_112 f_RX9_31 (by assumption) rfl ?_
        refine z_iload_n (pc := 115) dX9_judge_115 rfl rfl ?_
        refine z_callV (pc := 116) (c_X8_lengthOf cQ hQ ha) dX9_judge_116 l_RX9_336 m_MX8_lengthOf n_MX8_lengthOf e_MX8_lengthOf rfl (by omega) (by assumption) rfl rfl (Nat.le_of_ble_eq_true rfl) ?_
        rintro _ _ _ (⟨rfl, rfl, rfl⟩)
        try dsimp only [zov, Option.toList, List.cons_append, List.nil_append]
        refine z_iload_n (pc := 119) dX9_judge_119 rfl rfl ?_
        first | refine z_isubN (pc := 120) (by with_reducible rfl) (by with_reducible rfl) dX9_judge_120 (by omega) ?_ | refine z_isub (pc := 120) dX9_judge_120 ?_
        first | refine z_icmp_ltN (pc := 121) (tgt := 129) (by with_reducible rfl) (by with_reducible rfl) dX9_judge_121 (by decide) (by omega) (by omega) (fun hb121 => ?_) (fun hb121 => ?_) | refine z_icmp_lt (pc := 121) (tgt := 129) dX9_judge_121 (by decide) (fun hb121 => ?_) (fun hb121 => ?_)
        · skip
          have hv9 := (ha9 (3 * i + j) (by omega) (by omega) (by omega)).2
          refine z_aload_n (pc := 129) dX9_judge_129 rfl rfl ?_
          refine z_getR (pc := 130) dX9_judge_130 f_RX9_31 (by assumption) rfl ?_
          refine z_iload_n (pc := 133) dX9_judge_133 rfl rfl ?_
          refine z_iload_n (pc := 134) dX9_judge_134 rfl rfl ?_
          refine z_iload_n (pc := 135) dX9_judge_135 rfl rfl ?_
          first | refine z_iaddN (pc := 136) (by with_reducible rfl) (by with_reducible rfl) dX9_judge_136 ?_ | refine z_iadd (pc := 136) dX9_judge_136 ?_
          refine z_callV (pc := 137) (c_X8_itemAt cQ hQ ha (by omega)) dX9_judge_137 l_RX9_339 m_MX8_itemAt n_MX8_itemAt e_MX8_itemAt rfl (by omega) (by assumption) rfl rfl (Nat.le_of_ble_eq_true rfl) ?_
          rintro _ _ _ (⟨rfl, rfl, rfl⟩)
          try dsimp only [zov, Option.toList, List.cons_append, List.nil_append]
          refine z_aload_n (pc := 140) dX9_judge_140 rfl rfl ?_
          refine z_getR (pc := 141) dX9_judge_141 f_RX9_38 (by assumption) rfl ?_
          refine z_getR (pc := 144) dX9_judge_144 f_RX9_253 (by assumption) rfl ?_
          refine z_iload (pc := 147) dX9_judge_147 rfl ?_
          refine z_iload (pc := 149) dX9_judge_149 rfl ?_
          refine z_callS (pc := 151) c_X9_place dX9_judge_151 l_RX9_98 m_MX9_place s_MX9_place rfl (by omega) rfl (Nat.le_of_ble_eq_true rfl) ?_
          rintro _ _ _ (⟨rfl, rfl, rfl⟩)
          try dsimp only [zov, Option.toList, List.cons_append, List.nil_append]
          refine z_ialoadv (pc := 154) dX9_judge_154 (by assumption) (by with_reducible rfl) (by omega) (by decide) (by first | assumption | exact (ha9 _ (by omega) (by omega) (by omega)).1 | rfl) ?_
          first | refine z_i2lN (pc := 155) (by with_reducible rfl) dX9_judge_155 (by omega) ?_ | refine z_i2l (pc := 155) dX9_judge_155 rfl ?_
          refine z_lc_eq (pc := 156) (tgt := 162) dX9_judge_156 rfl dX9_judge_157 (by decide) (fun hb156 => ?_) (fun hb156 => ?_)
          · skip
            first | refine z_iincN (pc := 162) (c := 1) dX9_judge_162 rfl (by with_reducible rfl) (by decide) (by decide) rfl ?_ | refine z_iinc (pc := 162) dX9_judge_162 rfl rfl (by decide) rfl ?_
            try dsimp only [zst1, zst2, zk]
            first | refine z_iincN (pc := 165) (c := 1) dX9_judge_165 rfl (by with_reducible rfl) (by decide) (by decide) rfl ?_ | refine z_iinc (pc := 165) dX9_judge_165 rfl rfl (by decide) rfl ?_
            try dsimp only [zst1, zst2, zk]
            refine z_goto (pc := 168) (tgt := 91) dX9_judge_168 (by decide) ?_
            first
              | exact ih i (j + 1) (d + 1) (by omega) hi (by omega) (by omega) (by rw [zl_in _ b2 _ b4 _ hi _ (by omega)] at hq; simp only [zjd] at hq; rw [if_pos (by omega), if_pos hb156] at hq; exact hq)
              | exact ih (i + 1) 0 d (by omega) (by omega) (by omega) hd (by obtain rfl : j = S.n 1 := (by omega); rw [zl_row _ b2 _ b4 _ hi] at hq; exact hq)
              | fail
          · skip
            refine z_iload_n (pc := 160) dX9_judge_160 rfl rfl ?_
            refine z_iret (pc := 161) dX9_judge_161 rfl ?_
            first
              | (rw [zl_in _ b2 _ b4 _ hi _ (by omega)] at hq; simp only [zjd] at hq; rw [if_neg (by omega)] at hq; exact hq)
              | (rw [zl_in _ b2 _ b4 _ hi _ (by omega)] at hq; simp only [zjd] at hq; rw [if_pos (by omega), if_neg hb156] at hq; exact hq)
              | (obtain rfl : j = S.n 1 := (by omega); obtain h9 : i + 1 = S.n 0 := (by omega); rw [zl_row _ b2 _ b4 _ hi, h9, zl_end _ b2 _ b4] at hq; exact hq)
              | fail
        · skip
          refine z_bipush (pc := 124) (v := nI 100) dX9_judge_124 (by decide) ?_
          refine z_iload_n (pc := 126) dX9_judge_126 rfl rfl ?_
          first | refine z_iaddN (pc := 127) (by with_reducible rfl) (by with_reducible rfl) dX9_judge_127 ?_ | refine z_iadd (pc := 127) dX9_judge_127 ?_
          refine z_iret (pc := 128) dX9_judge_128 rfl ?_
          first
            | (rw [zl_in _ b2 _ b4 _ hi _ (by omega)] at hq; simp only [zjd] at hq; rw [if_neg (by omega)] at hq; exact hq)
            | (rw [zl_in _ b2 _ b4 _ hi _ (by omega)] at hq; simp only [zjd] at hq; rw [if_pos (by omega), if_neg hb156] at hq; exact hq)
            | (obtain rfl : j = S.n 1 := (by omega); obtain h9 : i + 1 = S.n 0 := (by omega); rw [zl_row _ b2 _ b4 _ hi, h9, zl_end _ b2 _ b4] at hq; exact hq)
            | fail
theorem fjudge_0 {S : zS} {t i : Int32} (h : ¬ isT t) : fjudge S t i = (.int (-1), S) := by rw [fjudge, zT_n h]
theorem fjudge_1 {S : zS} {a : Nat} {i : Int32} (h : a < 6) (h1 : zrnd S.n S.n = none) : fjudge S (nI a) i = (.int (-6), S) := by
  rw [fjudge, zT_y h]
  dsimp only
  rw [h1]
theorem fjudge_2 {S : zS} {a : Nat} {i : Int32} {w : Nat → Nat} (h : a < 6) (h1 : zrnd S.n S.n = some w) (h2 : S.so a = -1) : fjudge S (nI a) i = (.int (nI 100), S) := by
  rw [fjudge, zT_y h]
  dsimp only
  rw [h1]
  exact if_pos h2
theorem fjudge_3 {S : zS} {a : Nat} {i : Int32} {w : Nat → Nat} (h : a < 6) (h1 : zrnd S.n S.n = some w) (h2 : ¬ S.so a = -1) (h3 : ¬ S.so a = nI 2) : fjudge S (nI a) i = (.int (-12), S) := by
  rw [fjudge, zT_y h]
  dsimp only
  rw [h1]
  dsimp only
  rw [if_neg h2, if_neg h3]
theorem fjudge_4 {S : zS} {a : Nat} {i : Int32} {w : Nat → Nat} (h : a < 6) (h1 : zrnd S.n S.n = some w) (h3 : S.so a = nI 2) (h4 : i < 0) : fjudge S (nI a) i = (.int (nI 100), S) := by
  rw [fjudge, zT_y h]
  dsimp only
  rw [h1]
  dsimp only
  rw [if_neg (by rw [h3]; decide), if_pos h3, if_neg (fun q => Int32.not_lt.mpr q h4)]
theorem fjudge_5 {S : zS} {a b : Nat} {w : Nat → Nat} (h : a < 6) (h1 : zrnd S.n S.n = some w) (h3 : S.so a = nI 2) (hb : b < 2147483648) : fjudge S (nI a) (nI b) = (.int (zjd S w a b 0 (zl (S.n 0) (S.n 1) 0)), S) := by
  rw [fjudge, zT_y h]
  dsimp only
  rw [h1]
  dsimp only
  rw [if_neg (by rw [h3]; decide), if_pos h3, if_pos (Int32.not_lt.mp (nI_pos hb)), zt_nI hb]
set_option maxHeartbeats 2000000 in
set_option maxRecDepth 20000 in
theorem c_X9_judge {lay : List zL} {I : zI} {J : zJ} {S : zS} (hC : kC lay) (hV : vC I J S) {t i : Int32} : zMet lay MX9_judge 22 [.ref 0, .int t, .int i] I J (fun r I' J' => zPC I J (fjudge S t i) r I' J') := by
  refine zMet_of (t := MX9_judge) (ls := [.ref 0, .int t, .int i, .null, .null, .null]) (by decide +kernel) (Nat.le_of_ble_eq_true rfl) rfl ?_
  obtain ⟨c0, ⟨cP, cG⟩, ⟨cX, cQ, cR⟩, ⟨cS, cB, cD⟩, cf1, cf2, cf3, cU⟩ := id hC
  have p0 : lay[1]? = some (.inl (2, [4, 8, 13, 16, 19])) := cP.1
  have s0 : kS lay 2 := cP.2.1
  obtain ⟨s1, s2, s3, s4⟩ := id s0
  have t0 : kT lay 6 := cP.2.2.1
  obtain ⟨t1, t2, t3, t4, t5⟩ := id t0
  have n5 : kN lay 11 5 := cP.2.2.2.1
  have n8 : kN lay 14 8 := cP.2.2.2.2.1
  have m8 : kN lay 17 8 := cP.2.2.2.2.2
  have w0 : vS I 2 S.n := hV.1.1.1
  have w1 : vT I J 6 S.n := hV.1.1.2.1
  have w5 : vN I 11 5 (S.n 4) (fun k => S.n (52 + k) / 100) (fun k => S.n (52 + k) % 100) := hV.1.1.2.2.1
  have w8 : vN I 14 8 (S.n 5) (fun k => S.n (57 + k) / 100) (fun k => S.n (57 + k) % 100) := hV.1.1.2.2.2.1
  have x8 : vN I 17 8 (S.n 6) (fun k => S.n (65 + k) / 100) (fun k => S.n (65 + k) % 100) := hV.1.1.2.2.2.2
  obtain ⟨v0, v1, v2, v3, v4, v5⟩ := id w0
  obtain ⟨y0, y1, y2⟩ := id w1
  have hbN := hV.1.2
  have hB := hbN.1
  have hT := hbN.2.1
  obtain ⟨b1, b2, b3, b4, b5, b6, b7, b8⟩ := id hB
  have ox := cX.1
  have oq := cQ.1
  have ow := cR.1
  have od := cD.1
  have oe := cB.1
  have of1 := cS.1
  have of2 := cS.2.1
  have ou := cU.1
  have og := cG.1
  have on5 := n5.1
  have on8 := n8.1
  have om8 := m8.1
  have ov := cR.2.1.1
  have z1 := cf1
  have z2 := cf2
  have z3 := cf3
  unfold kF at z1 z2 z3
  refine z_aload_n (pc := 0) dX9_judge_0 rfl rfl ?_
  refine z_getR (pc := 1) dX9_judge_1 f_RX9_31 (by assumption) rfl ?_
  refine z_iload_n (pc := 4) dX9_judge_4 rfl rfl ?_
  refine z_callV (pc := 5) c_X8_hasTape dX9_judge_5 l_RX9_326 m_MX8_hasTape n_MX8_hasTape e_MX8_hasTape rfl (by omega) (by assumption) rfl rfl (Nat.le_of_ble_eq_true rfl) ?_
  rintro _ _ _ ⟨⟨rfl, ht⟩ | ⟨rfl, ht⟩, rfl, rfl⟩
  · obtain ⟨a, rfl, ha⟩ := ht
    try dsimp only [zov, Option.toList, List.cons_append, List.nil_append]
    first | refine z_if_neN (pc := 8) (tgt := 13) (by with_reducible rfl) dX9_judge_8 (by decide) (by omega) (fun hb8 => ?_) (fun hb8 => absurd hb8 (by decide)) | refine z_if_ne (pc := 8) (tgt := 13) dX9_judge_8 (by decide) (fun hb8 => ?_) (fun hb8 => absurd hb8 (by decide))
    · skip
      refine z_aload_n (pc := 13) dX9_judge_13 rfl rfl ?_
      refine z_getR (pc := 14) dX9_judge_14 f_RX9_38 (by assumption) rfl ?_
      refine z_aload_n (pc := 17) dX9_judge_17 rfl rfl ?_
      refine z_getR (pc := 18) dX9_judge_18 f_RX9_12 (by assumption) rfl ?_
      refine z_getR (pc := 21) dX9_judge_21 f_RX9_83 (by assumption) rfl ?_
      refine z_aload_n (pc := 24) dX9_judge_24 rfl rfl ?_
      refine z_getR (pc := 25) dX9_judge_25 f_RX9_12 (by assumption) rfl ?_
      refine z_getR (pc := 28) dX9_judge_28 f_RX9_102 (by assumption) rfl ?_
      refine z_callV (pc := 31) (c_X4_isFound s0 w0 hB t0 w1 hT cR (by omega) (by omega)) dX9_judge_31 l_RX9_250 m_MX4_isFound n_MX4_isFound e_MX4_isFound rfl (by omega) (by assumption) rfl rfl (Nat.le_of_ble_eq_true rfl) ?_
      rintro _ _ _ ⟨⟨rfl, v, hv, ha9⟩ | ⟨rfl, hv⟩, hi, hj⟩
      · have hV2 := vC_keep hV (zkp_f hi) (zkp_g hj)
        try dsimp only [zov, Option.toList, List.cons_append, List.nil_append]
        first | refine z_if_neN (pc := 34) (tgt := 40) (by with_reducible rfl) dX9_judge_34 (by decide) (by omega) (fun hb34 => ?_) (fun hb34 => absurd hb34 (by decide)) | refine z_if_ne (pc := 34) (tgt := 40) dX9_judge_34 (by decide) (fun hb34 => ?_) (fun hb34 => absurd hb34 (by decide))
        · skip
          refine z_aload_n (pc := 40) dX9_judge_40 rfl rfl ?_
          refine z_getR (pc := 41) dX9_judge_41 f_RX9_31 (by assumption) rfl ?_
          refine z_iload_n (pc := 44) dX9_judge_44 rfl rfl ?_
          refine z_callV (pc := 45) (c_X8_holds cQ hV2.2.2.2.2 ha) dX9_judge_45 l_RX9_330 m_MX8_holds n_MX8_holds e_MX8_holds rfl (by omega) (by assumption) rfl rfl (Nat.le_of_ble_eq_true rfl) ?_
          rintro _ _ _ ⟨⟨rfl, ho⟩ | ⟨rfl, ho⟩, rfl, rfl⟩
          · skip
            try dsimp only [zov, Option.toList, List.cons_append, List.nil_append]
            first | refine z_if_neN (pc := 48) (tgt := 54) (by with_reducible rfl) dX9_judge_48 (by decide) (by omega) (fun hb48 => ?_) (fun hb48 => absurd hb48 (by decide)) | refine z_if_ne (pc := 48) (tgt := 54) dX9_judge_48 (by decide) (fun hb48 => ?_) (fun hb48 => absurd hb48 (by decide))
            · skip
              refine z_aload_n (pc := 54) dX9_judge_54 rfl rfl ?_
              refine z_getR (pc := 55) dX9_judge_55 f_RX9_31 (by assumption) rfl ?_
              refine z_iload_n (pc := 58) dX9_judge_58 rfl rfl ?_
              refine z_callV (pc := 59) (c_X8_isOfInts cQ hV2.2.2.2.2 ha) dX9_judge_59 l_RX9_333 m_MX8_isOfInts n_MX8_isOfInts e_MX8_isOfInts rfl (by omega) (by assumption) rfl rfl (Nat.le_of_ble_eq_true rfl) ?_
              rintro _ _ _ ⟨⟨rfl, hs⟩ | ⟨rfl, hs⟩, rfl, rfl⟩
              · have hu0 : _ = nI (S.n 0) := hV2.1.1.1.1; have hu1 : _ = nI (S.n 1) := hV2.1.1.1.2.1
                try dsimp only [zov, Option.toList, List.cons_append, List.nil_append]
                first | refine z_if_neN (pc := 62) (tgt := 68) (by with_reducible rfl) dX9_judge_62 (by decide) (by omega) (fun hb62 => ?_) (fun hb62 => absurd hb62 (by decide)) | refine z_if_ne (pc := 62) (tgt := 68) dX9_judge_62 (by decide) (fun hb62 => ?_) (fun hb62 => absurd hb62 (by decide))
                · skip
                  refine z_iconst (pc := 68) (v := nI 0) dX9_judge_68 (by decide) ?_
                  refine z_istore_n (pc := 69) dX9_judge_69 rfl (by decide) rfl ?_
                  try dsimp only [zst1, zst2, zk]
                  refine z_iconst (pc := 70) (v := nI 0) dX9_judge_70 (by decide) ?_
                  refine z_istore (pc := 71) dX9_judge_71 (by decide) rfl ?_
                  try dsimp only [zst1, zst2, zk]
                  refine z_iload (pc := 73) dX9_judge_73 rfl ?_
                  refine z_aload_n (pc := 75) dX9_judge_75 rfl rfl ?_
                  refine z_getR (pc := 76) dX9_judge_76 f_RX9_12 (by assumption) rfl ?_
                  refine z_getR (pc := 79) dX9_judge_79 f_RX9_83 (by assumption) rfl ?_
                  refine z_getIv (pc := 82) dX9_judge_82 f_RX9_234 (by assumption) rfl (by first | assumption | exact hu0 | exact hu1 | rfl) ?_
                  first | refine z_icmp_geN (pc := 85) (tgt := 177) (by with_reducible rfl) (by with_reducible rfl) dX9_judge_85 (by decide) (by omega) (by omega) (fun hb85 => absurd hb85 (by omega)) (fun hb85 => ?_) | refine z_icmp_ge (pc := 85) (tgt := 177) dX9_judge_85 (by decide) (fun hb85 => absurd hb85 (by omega)) (fun hb85 => ?_)
                  · skip
                    refine z_iconst (pc := 88) (v := nI 0) dX9_judge_88 (by decide) ?_
                    refine z_istore (pc := 89) dX9_judge_89 (by decide) rfl ?_
                    try dsimp only [zst1, zst2, zk]
                    by_cases hi0 : i < 0
                    · skip
                      refine z_iload (pc := 91) dX9_judge_91 rfl ?_
                      refine z_aload_n (pc := 93) dX9_judge_93 rfl rfl ?_
                      refine z_getR (pc := 94) dX9_judge_94 f_RX9_12 (by assumption) rfl ?_
                      refine z_getR (pc := 97) dX9_judge_97 f_RX9_83 (by assumption) rfl ?_
                      refine z_getIv (pc := 100) dX9_judge_100 f_RX9_237 (by assumption) rfl (by first | assumption | exact hu0 | exact hu1 | rfl) ?_
                      first | refine z_icmp_geN (pc := 103) (tgt := 171) (by with_reducible rfl) (by with_reducible rfl) dX9_judge_103 (by decide) (by omega) (by omega) (fun hb103 => absurd hb103 (by omega)) (fun hb103 => ?_) | refine z_icmp_ge (pc := 103) (tgt := 171) dX9_judge_103 (by decide) (fun hb103 => absurd hb103 (by omega)) (fun hb103 => ?_)
                      · skip
                        refine z_iload_n (pc := 106) dX9_judge_106 rfl rfl ?_
                        first | refine z_if_ltN (pc := 107) (tgt := 124) (by with_reducible rfl) dX9_judge_107 (by decide) (by omega) (fun hb107 => ?_) (fun hb107 => absurd hb107 (fun q => q hi0)) | refine z_if_lt (pc := 107) (tgt := 124) dX9_judge_107 (by decide) (fun hb107 => ?_) (fun hb107 => absurd hb107 (fun q => q hi0))
                        · skip
                          refine z_bipush (pc := 124) (v := nI 100) dX9_judge_124 (by decide) ?_
                          refine z_iload_n (pc := 126) dX9_judge_126 rfl rfl ?_
                          first | refine z_iaddN (pc := 127) (by with_reducible rfl) (by with_reducible rfl) dX9_judge_127 ?_ | refine z_iadd (pc := 127) dX9_judge_127 ?_
                          refine z_iret (pc := 128) dX9_judge_128 rfl ?_
                          exact zPC_keep hV (zkp_f hi) (zkp_g hj) (fjudge_4 ha hv hs hi0)
                    · obtain ⟨b, rfl, hb⟩ := nI_any hi0
                      exact l_X9_judge hC hV2 ha9 ha hb 100 0 0 0 (by omega) (by omega) (by omega) (by omega) (zPC_keep hV (zkp_f hi) (zkp_g hj) (fjudge_5 ha hv hs hb))
              · skip
                try dsimp only [zov, Option.toList, List.cons_append, List.nil_append]
                first | refine z_if_neN (pc := 62) (tgt := 68) (by with_reducible rfl) dX9_judge_62 (by decide) (by omega) (fun hb62 => absurd hb62 (by decide)) (fun hb62 => ?_) | refine z_if_ne (pc := 62) (tgt := 68) dX9_judge_62 (by decide) (fun hb62 => absurd hb62 (by decide)) (fun hb62 => ?_)
                · skip
                  refine z_bipush (pc := 65) (v := -12) dX9_judge_65 (by decide) ?_
                  refine z_iret (pc := 67) dX9_judge_67 rfl ?_
                  first
                    | exact zPC_same hV (fjudge_0 ht)
                    | exact zPC_keep hV (zkp_f hi) (zkp_g hj) (fjudge_1 ha hv)
                    | exact zPC_keep hV (zkp_f hi) (zkp_g hj) (fjudge_2 ha hv ho)
                    | exact zPC_keep hV (zkp_f hi) (zkp_g hj) (fjudge_3 ha hv ho hs)
                    | fail
          · skip
            try dsimp only [zov, Option.toList, List.cons_append, List.nil_append]
            first | refine z_if_neN (pc := 48) (tgt := 54) (by with_reducible rfl) dX9_judge_48 (by decide) (by omega) (fun hb48 => absurd hb48 (by decide)) (fun hb48 => ?_) | refine z_if_ne (pc := 48) (tgt := 54) dX9_judge_48 (by decide) (fun hb48 => absurd hb48 (by decide)) (fun hb48 => ?_)
            · skip
              refine z_bipush (pc := 51) (v := nI 100) dX9_judge_51 (by decide) ?_
              refine z_iret (pc := 53) dX9_judge_53 rfl ?_
              first
                | exact zPC_same hV (fjudge_0 ht)
                | exact zPC_keep hV (zkp_f hi) (zkp_g hj) (fjudge_1 ha hv)
                | exact zPC_keep hV (zkp_f hi) (zkp_g hj) (fjudge_2 ha hv ho)
                | exact zPC_keep hV (zkp_f hi) (zkp_g hj) (fjudge_3 ha hv ho hs)
                | fail
      · skip
        try dsimp only [zov, Option.toList, List.cons_append, List.nil_append]
        first | refine z_if_neN (pc := 34) (tgt := 40) (by with_reducible rfl) dX9_judge_34 (by decide) (by omega) (fun hb34 => absurd hb34 (by decide)) (fun hb34 => ?_) | refine z_if_ne (pc := 34) (tgt := 40) dX9_judge_34 (by decide) (fun hb34 => absurd hb34 (by decide)) (fun hb34 => ?_)
        · skip
          refine z_bipush (pc := 37) (v := -6) dX9_judge_37 (by decide) ?_
          refine z_iret (pc := 39) dX9_judge_39 rfl ?_
          first
            | exact zPC_same hV (fjudge_0 ht)
            | exact zPC_keep hV (zkp_f hi) (zkp_g hj) (fjudge_1 ha hv)
            | exact zPC_keep hV (zkp_f hi) (zkp_g hj) (fjudge_2 ha hv ho)
            | exact zPC_keep hV (zkp_f hi) (zkp_g hj) (fjudge_3 ha hv ho hs)
            | fail
  · skip
    try dsimp only [zov, Option.toList, List.cons_append, List.nil_append]
    first | refine z_if_neN (pc := 8) (tgt := 13) (by with_reducible rfl) dX9_judge_8 (by decide) (by omega) (fun hb8 => absurd hb8 (by decide)) (fun hb8 => ?_) | refine z_if_ne (pc := 8) (tgt := 13) dX9_judge_8 (by decide) (fun hb8 => absurd hb8 (by decide)) (fun hb8 => ?_)
    · skip
      refine z_iconst (pc := 11) (v := -1) dX9_judge_11 (by decide) ?_
      refine z_iret (pc := 12) dX9_judge_12 rfl ?_
      first
        | exact zPC_same hV (fjudge_0 ht)
        | exact zPC_keep hV (zkp_f hi) (zkp_g hj) (fjudge_1 ha hv)
        | exact zPC_keep hV (zkp_f hi) (zkp_g hj) (fjudge_2 ha hv ho)
        | exact zPC_keep hV (zkp_f hi) (zkp_g hj) (fjudge_3 ha hv ho hs)
        | fail
