/-! ===== the class's calls: counts, marks, margins ===== -/
theorem zb01 {x : Nat} (h : x ≤ 1) : nI x = 0 ∨ nI x = 1 := by
  rcases (show x = 0 ∨ x = 1 by omega) with rfl | rfl
  · exact Or.inl rfl
  · exact Or.inr rfl
theorem nI_get1 {x : Int32} {m : Nat} (hm : m < 2147483647) (h0 : ¬ x < nI 1) (h1 : ¬ nI m < x) : ∃ a, x = nI a ∧ 1 ≤ a ∧ a ≤ m := by
  have h2 : ¬ x < 0 := fun h => h0 (Int32.lt_trans h (by decide))
  obtain ⟨a, rfl, ha⟩ := nI_get2 hm h2 h1
  refine ⟨a, rfl, ?_, ha⟩
  rcases Nat.eq_zero_or_pos a with q | q
  · subst q; exact absurd (by decide) h0
  · exact q
theorem fsize_n {S : zS} {r c : Int32} (h : ¬ ((∃ a, r = nI a ∧ 1 ≤ a ∧ a ≤ 3) ∧ ∃ b, c = nI b ∧ 1 ≤ b ∧ b ≤ 3)) : fsize S r c = (.int (-2), S) := by
  unfold fsize
  by_cases h1 : isR 3 r
  · by_cases h2 : isR 3 c
    · obtain ⟨a, rfl, ha⟩ := h1
      obtain ⟨b, rfl, hb⟩ := h2
      rw [zR_y (by decide) ha, zR_y (by decide) hb]
      exact if_neg (fun q => h ⟨⟨a, rfl, q.1, ha⟩, b, rfl, q.2, hb⟩)
    · rw [zR_n h2]
      cases zR 3 r <;> rfl
  · rw [zR_n h1]
theorem fsize_y {S : zS} {a b : Nat} (ha : 1 ≤ a ∧ a ≤ 3) (hb : 1 ≤ b ∧ b ≤ 3) : fsize S (nI a) (nI b) = (.int (nI (a * b)), S.up (zsize S.n a b)) := by
  unfold fsize
  rw [zR_y (by decide) ha.2, zR_y (by decide) hb.2]
  exact if_pos ⟨ha.1, hb.1⟩
theorem nI_lt1 {a : Nat} (h : nI a < nI 1) (ha : 1 ≤ a) (hm : a ≤ 3) : False := absurd ((nI_ltI (by omega) (by omega)).mp h) (by omega)
theorem zsize_o {n : Nat → Nat} {r c k : Nat} (h : 52 ≤ k) : zsize n r c k = n k := by
  unfold zsize zbec
  rw [if_neg (by omega), if_neg (by omega), if_neg (by omega), if_neg (by omega), if_neg (by omega), if_neg (by omega), if_neg (by omega)]
theorem zsize_bN {n : Nat → Nat} {r c : Nat} (hr : 1 ≤ r ∧ r ≤ 3) (hc : 1 ≤ c ∧ c ≤ 3) (h2 : n 2 ≤ 1) : bN (zsize n r c) := by
  have e4 : zsize n r c 4 = 0 := rfl
  have e5 : zsize n r c 5 = 0 := rfl
  have e6 : zsize n r c 6 = 0 := rfl
  refine ⟨bS_to (zbec_bS hr hc h2) (fun k hk => zsize_s hk), fun k hk => ?_, ⟨by omega, by omega, by omega⟩, fun k hk => absurd hk (by omega), fun k hk => absurd hk (by omega), fun k hk => absurd hk (by omega)⟩
  unfold zsize
  rw [if_neg (by omega), if_pos (by omega), if_neg (by omega), if_pos (by omega)]
  omega
set_option maxHeartbeats 2000000 in
set_option maxRecDepth 20000 in
theorem c_X9_size {lay : List zL} {I : zI} {J : zJ} {S : zS} (hC : kC lay) (hV : vC I J S) {r0 c : Int32} : zMet lay MX9_size 3 [.ref 0, .int r0, .int c] I J (fun r I' J' => zPC I J (fsize S r0 c) r I' J') := by
  refine zMet_of (t := MX9_size) (ls := [.ref 0, .int r0, .int c]) (by decide +kernel) (Nat.le_of_ble_eq_true rfl) rfl ?_
  obtain ⟨c0, ⟨cP, cG⟩, ⟨cX, cQ, cR⟩, ⟨cS, cB, cD⟩, cf1, cf2, cf3, cU⟩ := id hC
  have p0 : lay[1]? = some (.inl (2, [4, 8, 13, 16, 19])) := cP.1
  have s0 : kS lay 2 := cP.2.1
  obtain ⟨s1, s2, s3, s4⟩ := id s0
  have t0 : kT lay 6 := cP.2.2.1
  obtain ⟨t1, t2, t3, t4, t5⟩ := id t0
  have n5 : kN lay 11 5 := cP.2.2.2.1
  have n8 : kN lay 14 8 := cP.2.2.2.2.1
  have m8 : kN lay 17 8 := cP.2.2.2.2.2
  have w0 : vS I 2 S.n := hV.1.1.1
  have w1 : vT I J 6 S.n := hV.1.1.2.1
  have w5 : vN I 11 5 (S.n 4) (fun k => S.n (52 + k) / 100) (fun k => S.n (52 + k) % 100) := hV.1.1.2.2.1
  have w8 : vN I 14 8 (S.n 5) (fun k => S.n (57 + k) / 100) (fun k => S.n (57 + k) % 100) := hV.1.1.2.2.2.1
  have x8 : vN I 17 8 (S.n 6) (fun k => S.n (65 + k) / 100) (fun k => S.n (65 + k) % 100) := hV.1.1.2.2.2.2
  obtain ⟨v0, v1, v2, v3, v4, v5⟩ := id w0
  obtain ⟨y0, y1, y2⟩ := id w1
  have hb := hV.1.2
  have hB := hb.1
  have hT := hb.2.1
  obtain ⟨b1, b2, b3, b4, b5, b6, b7, b8⟩ := id hB
  have ox := cX.1
  have oq := cQ.1
  have ow := cR.1
  have od := cD.1
  have oe := cB.1
  have of1 := cS.1
  have of2 := cS.2.1
  have ou := cU.1
  have og := cG.1
  have on5 := n5.1
  have on8 := n8.1
  have om8 := m8.1
  have ov := cR.2.1.1
  have z1 := cf1
  have z2 := cf2
  have z3 := cf3
  unfold kF at z1 z2 z3
  refine z_iload_n (pc := 0) dX9_size_0 rfl rfl ?_
  refine z_iconst (pc := 1) (v := nI 1) dX9_size_1 (by decide) ?_
  first | refine z_icmp_ltN (pc := 2) (tgt := 20) (by with_reducible rfl) (by with_reducible rfl) dX9_size_2 (by decide) (by omega) (by omega) (fun hb2 => ?_) (fun hb2 => ?_) | refine z_icmp_lt (pc := 2) (tgt := 20) dX9_size_2 (by decide) (fun hb2 => ?_) (fun hb2 => ?_)
  · skip
    refine z_bipush (pc := 20) (v := -2) dX9_size_20 (by decide) ?_
    refine z_iret (pc := 22) dX9_size_22 rfl ?_
    first
      | exact zPC_now hV (fun x q1 q2 => hi x (by omega)) (fun x q1 q2 => hj x (by omega)) hv (zsize_bN hr2 hc2 b5) (fsize_y hr2 hc2)
      | exact zPC_same hV (fsize_n (fun ⟨⟨a, e, h1, h2⟩, _⟩ => nI_lt1 (by rw [← e]; exact hb2) h1 h2))
      | exact zPC_same hV (fsize_n (fun ⟨⟨a, e, h1, h2⟩, _⟩ => isR_2 (by decide) hb7 ⟨a, e, h2⟩))
      | exact zPC_same hV (fsize_n (fun ⟨_, a, e, h1, h2⟩ => nI_lt1 (by rw [← e]; exact hb12) h1 h2))
      | exact zPC_same hV (fsize_n (fun ⟨_, a, e, h1, h2⟩ => isR_2 (by decide) (Int32.not_le.mp hb17) ⟨a, e, h2⟩))
      | fail
  · skip
    refine z_iload_n (pc := 5) dX9_size_5 rfl rfl ?_
    refine z_iconst (pc := 6) (v := nI 3) dX9_size_6 (by decide) ?_
    first | refine z_icmp_gtN (pc := 7) (tgt := 20) (by with_reducible rfl) (by with_reducible rfl) dX9_size_7 (by decide) (by omega) (by omega) (fun hb7 => ?_) (fun hb7 => ?_) | refine z_icmp_gt (pc := 7) (tgt := 20) dX9_size_7 (by decide) (fun hb7 => ?_) (fun hb7 => ?_)
    · skip
      refine z_bipush (pc := 20) (v := -2) dX9_size_20 (by decide) ?_
      refine z_iret (pc := 22) dX9_size_22 rfl ?_
      first
        | exact zPC_now hV (fun x q1 q2 => hi x (by omega)) (fun x q1 q2 => hj x (by omega)) hv (zsize_bN hr2 hc2 b5) (fsize_y hr2 hc2)
        | exact zPC_same hV (fsize_n (fun ⟨⟨a, e, h1, h2⟩, _⟩ => nI_lt1 (by rw [← e]; exact hb2) h1 h2))
        | exact zPC_same hV (fsize_n (fun ⟨⟨a, e, h1, h2⟩, _⟩ => isR_2 (by decide) hb7 ⟨a, e, h2⟩))
        | exact zPC_same hV (fsize_n (fun ⟨_, a, e, h1, h2⟩ => nI_lt1 (by rw [← e]; exact hb12) h1 h2))
        | exact zPC_same hV (fsize_n (fun ⟨_, a, e, h1, h2⟩ => isR_2 (by decide) (Int32.not_le.mp hb17) ⟨a, e, h2⟩))
        | fail
    · skip
      refine z_iload_n (pc := 10) dX9_size_10 rfl rfl ?_
      refine z_iconst (pc := 11) (v := nI 1) dX9_size_11 (by decide) ?_
      first | refine z_icmp_ltN (pc := 12) (tgt := 20) (by with_reducible rfl) (by with_reducible rfl) dX9_size_12 (by decide) (by omega) (by omega) (fun hb12 => ?_) (fun hb12 => ?_) | refine z_icmp_lt (pc := 12) (tgt := 20) dX9_size_12 (by decide) (fun hb12 => ?_) (fun hb12 => ?_)
      · skip
        refine z_bipush (pc := 20) (v := -2) dX9_size_20 (by decide) ?_
        refine z_iret (pc := 22) dX9_size_22 rfl ?_
        first
          | exact zPC_now hV (fun x q1 q2 => hi x (by omega)) (fun x q1 q2 => hj x (by omega)) hv (zsize_bN hr2 hc2 b5) (fsize_y hr2 hc2)
          | exact zPC_same hV (fsize_n (fun ⟨⟨a, e, h1, h2⟩, _⟩ => nI_lt1 (by rw [← e]; exact hb2) h1 h2))
          | exact zPC_same hV (fsize_n (fun ⟨⟨a, e, h1, h2⟩, _⟩ => isR_2 (by decide) hb7 ⟨a, e, h2⟩))
          | exact zPC_same hV (fsize_n (fun ⟨_, a, e, h1, h2⟩ => nI_lt1 (by rw [← e]; exact hb12) h1 h2))
          | exact zPC_same hV (fsize_n (fun ⟨_, a, e, h1, h2⟩ => isR_2 (by decide) (Int32.not_le.mp hb17) ⟨a, e, h2⟩))
          | fail
      · skip
        refine z_iload_n (pc := 15) dX9_size_15 rfl rfl ?_
        refine z_iconst (pc := 16) (v := nI 3) dX9_size_16 (by decide) ?_
        first | refine z_icmp_leN (pc := 17) (tgt := 23) (by with_reducible rfl) (by with_reducible rfl) dX9_size_17 (by decide) (by omega) (by omega) (fun hb17 => ?_) (fun hb17 => ?_) | refine z_icmp_le (pc := 17) (tgt := 23) dX9_size_17 (by decide) (fun hb17 => ?_) (fun hb17 => ?_)
        · skip
          obtain ⟨a, rfl, hr2⟩ := nI_get1 (m := 3) (by omega) hb2 hb7
          obtain ⟨b, rfl, hc2⟩ := nI_get1 (m := 3) (by omega) hb12 (Int32.not_lt.mpr hb17)
          refine z_aload_n (pc := 23) dX9_size_23 rfl rfl ?_
          refine z_getR (pc := 24) dX9_size_24 f_RX9_12 (by assumption) rfl ?_
          refine z_iload_n (pc := 27) dX9_size_27 rfl rfl ?_
          refine z_iload_n (pc := 28) dX9_size_28 rfl rfl ?_
          refine z_callV (pc := 29) (c_X2_become cP (vP_mP hV.1.1) v2 b5 hr2 hc2) dX9_size_29 l_RX9_79 m_MX2_become n_MX2_become e_MX2_become rfl (by omega) (by assumption) rfl rfl (Nat.le_of_ble_eq_true rfl) ?_
          rintro _ _ _ (⟨rfl, ⟨hv, hi, hj⟩⟩)
          try dsimp only [zov, Option.toList, List.cons_append, List.nil_append]
          refine z_aload_n (pc := 32) dX9_size_32 rfl rfl ?_
          refine z_getR (pc := 33) dX9_size_33 f_RX9_12 (by assumption) rfl ?_
          refine z_getR (pc := 36) dX9_size_36 f_RX9_83 (by assumption) rfl ?_
          refine z_callV (pc := 39) (c_X6_cells s0 hv.1 (bS_to (zbec_bS (n := S.n) hr2 hc2 b5) (fun k hk => zsize_s hk))) dX9_size_39 l_RX9_86 m_MX6_cells n_MX6_cells e_MX6_cells rfl (by omega) (by assumption) rfl rfl (Nat.le_of_ble_eq_true rfl) ?_
          rintro _ _ _ (⟨rfl, rfl, rfl⟩)
          try dsimp only [zov, Option.toList, List.cons_append, List.nil_append]
          refine z_iret (pc := 42) dX9_size_42 rfl ?_
          first
            | exact zPC_now hV (fun x q1 q2 => hi x (by omega)) (fun x q1 q2 => hj x (by omega)) hv (zsize_bN hr2 hc2 b5) (fsize_y hr2 hc2)
            | exact zPC_same hV (fsize_n (fun ⟨⟨a, e, h1, h2⟩, _⟩ => nI_lt1 (by rw [← e]; exact hb2) h1 h2))
            | exact zPC_same hV (fsize_n (fun ⟨⟨a, e, h1, h2⟩, _⟩ => isR_2 (by decide) hb7 ⟨a, e, h2⟩))
            | exact zPC_same hV (fsize_n (fun ⟨_, a, e, h1, h2⟩ => nI_lt1 (by rw [← e]; exact hb12) h1 h2))
            | exact zPC_same hV (fsize_n (fun ⟨_, a, e, h1, h2⟩ => isR_2 (by decide) (Int32.not_le.mp hb17) ⟨a, e, h2⟩))
            | fail
        · skip
          refine z_bipush (pc := 20) (v := -2) dX9_size_20 (by decide) ?_
          refine z_iret (pc := 22) dX9_size_22 rfl ?_
          first
            | exact zPC_now hV (fun x q1 q2 => hi x (by omega)) (fun x q1 q2 => hj x (by omega)) hv (zsize_bN hr2 hc2 b5) (fsize_y hr2 hc2)
            | exact zPC_same hV (fsize_n (fun ⟨⟨a, e, h1, h2⟩, _⟩ => nI_lt1 (by rw [← e]; exact hb2) h1 h2))
            | exact zPC_same hV (fsize_n (fun ⟨⟨a, e, h1, h2⟩, _⟩ => isR_2 (by decide) hb7 ⟨a, e, h2⟩))
            | exact zPC_same hV (fsize_n (fun ⟨_, a, e, h1, h2⟩ => nI_lt1 (by rw [← e]; exact hb12) h1 h2))
            | exact zPC_same hV (fsize_n (fun ⟨_, a, e, h1, h2⟩ => isR_2 (by decide) (Int32.not_le.mp hb17) ⟨a, e, h2⟩))
            | fail
set_option maxHeartbeats 2000000 in
set_option maxRecDepth 20000 in
theorem c_X9_tell {lay : List zL} {I : zI} {J : zJ} {S : zS} (hC : kC lay) (hV : vC I J S) {i j v : Int32} : zMet lay MX9_tell 3 [.ref 0, .int i, .int j, .int v] I J (fun r I' J' => zPC I J (ftell S i j v) r I' J') := by
  refine zMet_of (t := MX9_tell) (ls := [.ref 0, .int i, .int j, .int v, .null, .null]) (by decide +kernel) (Nat.le_of_ble_eq_true rfl) rfl ?_
  obtain ⟨c0, ⟨cP, cG⟩, ⟨cX, cQ, cR⟩, ⟨cS, cB, cD⟩, cf1, cf2, cf3, cU⟩ := id hC
  have p0 : lay[1]? = some (.inl (2, [4, 8, 13, 16, 19])) := cP.1
  have s0 : kS lay 2 := cP.2.1
  obtain ⟨s1, s2, s3, s4⟩ := id s0
  have t0 : kT lay 6 := cP.2.2.1
  obtain ⟨t1, t2, t3, t4, t5⟩ := id t0
  have n5 : kN lay 11 5 := cP.2.2.2.1
  have n8 : kN lay 14 8 := cP.2.2.2.2.1
  have m8 : kN lay 17 8 := cP.2.2.2.2.2
  have w0 : vS I 2 S.n := hV.1.1.1
  have w1 : vT I J 6 S.n := hV.1.1.2.1
  have w5 : vN I 11 5 (S.n 4) (fun k => S.n (52 + k) / 100) (fun k => S.n (52 + k) % 100) := hV.1.1.2.2.1
  have w8 : vN I 14 8 (S.n 5) (fun k => S.n (57 + k) / 100) (fun k => S.n (57 + k) % 100) := hV.1.1.2.2.2.1
  have x8 : vN I 17 8 (S.n 6) (fun k => S.n (65 + k) / 100) (fun k => S.n (65 + k) % 100) := hV.1.1.2.2.2.2
  obtain ⟨v0, v1, v2, v3, v4, v5⟩ := id w0
  obtain ⟨y0, y1, y2⟩ := id w1
  have hb := hV.1.2
  have hB := hb.1
  have hT := hb.2.1
  obtain ⟨b1, b2, b3, b4, b5, b6, b7, b8⟩ := id hB
  have ox := cX.1
  have oq := cQ.1
  have ow := cR.1
  have od := cD.1
  have oe := cB.1
  have of1 := cS.1
  have of2 := cS.2.1
  have ou := cU.1
  have og := cG.1
  have on5 := n5.1
  have on8 := n8.1
  have om8 := m8.1
  have ov := cR.2.1.1
  have z1 := cf1
  have z2 := cf2
  have z3 := cf3
  unfold kF at z1 z2 z3
  refine z_aload_n (pc := 0) dX9_tell_0 rfl rfl ?_
  refine z_getR (pc := 1) dX9_tell_1 f_RX9_12 (by assumption) rfl ?_
  refine z_getR (pc := 4) dX9_tell_4 f_RX9_83 (by assumption) rfl ?_
  refine z_astore (pc := 7) dX9_tell_7 (by decide) rfl ?_
  try dsimp only [zst1, zst2, zk]
  refine z_aload (pc := 9) dX9_tell_9 rfl ?_
  refine z_iload_n (pc := 11) dX9_tell_11 rfl rfl ?_
  refine z_iload_n (pc := 12) dX9_tell_12 rfl rfl ?_
  refine z_callV (pc := 13) (c_X6_hasCell s0 w0 hB) dX9_tell_13 l_RX9_90 m_MX6_hasCell n_MX6_hasCell e_MX6_hasCell rfl (by omega) (by assumption) rfl rfl (Nat.le_of_ble_eq_true rfl) ?_
  rintro _ _ _ ⟨⟨rfl, hc⟩ | ⟨rfl, hc⟩, rfl, rfl⟩
  · obtain ⟨a, b, rfl, rfl, ha, hbb⟩ := hc; have hk : 3 * a + b < 9 := (by omega)
    try dsimp only [zov, Option.toList, List.cons_append, List.nil_append]
    first | refine z_if_neN (pc := 16) (tgt := 21) (by with_reducible rfl) dX9_tell_16 (by decide) (by omega) (fun hb16 => ?_) (fun hb16 => absurd hb16 (by decide)) | refine z_if_ne (pc := 16) (tgt := 21) dX9_tell_16 (by decide) (fun hb16 => ?_) (fun hb16 => absurd hb16 (by decide))
    · skip
      refine z_iload_n (pc := 21) dX9_tell_21 rfl rfl ?_
      first | refine z_if_ltN (pc := 22) (tgt := 31) (by with_reducible rfl) dX9_tell_22 (by decide) (by omega) (fun hb22 => ?_) (fun hb22 => ?_) | refine z_if_lt (pc := 22) (tgt := 31) dX9_tell_22 (by decide) (fun hb22 => ?_) (fun hb22 => ?_)
      · skip
        refine z_bipush (pc := 31) (v := -2) dX9_tell_31 (by decide) ?_
        refine z_iret (pc := 33) dX9_tell_33 rfl ?_
        first
          | exact zPC_same hV (by rw [ftell, zC_n hc])
          | exact zPC_same hV (by rw [ftell, zC_y b2 b4 ha hbb, zR_n (isR_1 (by decide) hb22)])
          | exact zPC_same hV (by rw [ftell, zC_y b2 b4 ha hbb, zR_n (isR_2 (by decide) (Int32.not_le.mp hb28))])
          | (have hv9 := vC_n hV
             refine zPC_now hV (fun x q1 q2 => ?_) (fun x q1 q2 => hj x (by omega) (by omega)) (vP_tab (n := zset1 S.n (7 + (3 * a + b)) x) (I := zup I 3 (3 * a + b) (nI x)) (J := J) (vP_set hv9 (vS_c w0 hk) (fun y q1 q2 => zup_o (by omega)) (fun _ _ _ => rfl) (fun k q => zset1_o (by omega))) hv (fun y q1 q2 q3 => zup_o (by omega)) (fun k q => ztk_o q)) (ztk_bN (zset1_bN hb (zset1_bSc hB hk hx) (by omega) (by omega))) (by rw [ftell, zC_y b2 b4 ha hbb, zR_y (by decide) hx])
             rw [zup_o (by omega), zup_o (by omega)])
          | fail
      · skip
        refine z_iload_n (pc := 25) dX9_tell_25 rfl rfl ?_
        refine z_bipush (pc := 26) (v := nI 20) dX9_tell_26 (by decide) ?_
        first | refine z_icmp_leN (pc := 28) (tgt := 34) (by with_reducible rfl) (by with_reducible rfl) dX9_tell_28 (by decide) (by omega) (by omega) (fun hb28 => ?_) (fun hb28 => ?_) | refine z_icmp_le (pc := 28) (tgt := 34) dX9_tell_28 (by decide) (fun hb28 => ?_) (fun hb28 => ?_)
        · skip
          obtain ⟨x, rfl, hx⟩ := nI_get2 (m := 20) (by omega) hb22 (Int32.not_lt.mpr hb28)
          refine z_aload (pc := 34) dX9_tell_34 rfl ?_
          refine z_getR (pc := 36) dX9_tell_36 f_RX9_94 (by assumption) rfl ?_
          refine z_iload_n (pc := 39) dX9_tell_39 rfl rfl ?_
          refine z_iload_n (pc := 40) dX9_tell_40 rfl rfl ?_
          refine z_callS (pc := 41) c_X9_place dX9_tell_41 l_RX9_98 m_MX9_place s_MX9_place rfl (by omega) rfl (Nat.le_of_ble_eq_true rfl) ?_
          rintro _ _ _ (⟨rfl, rfl, rfl⟩)
          try dsimp only [zov, Option.toList, List.cons_append, List.nil_append]
          refine z_ialoadv (pc := 44) dX9_tell_44 (by assumption) (by with_reducible rfl) (by omega) (by decide) (by first | assumption | exact v3 _ (by omega) | exact v4 _ (by omega) | exact v5 _ (by omega) | exact y0 _ (by omega) | exact y1 _ (by omega) | rfl) ?_
          refine z_istore (pc := 45) dX9_tell_45 (by decide) rfl ?_
          try dsimp only [zst1, zst2, zk]
          refine z_aload (pc := 47) dX9_tell_47 rfl ?_
          refine z_getR (pc := 49) dX9_tell_49 f_RX9_94 (by assumption) rfl ?_
          refine z_iload_n (pc := 52) dX9_tell_52 rfl rfl ?_
          refine z_iload_n (pc := 53) dX9_tell_53 rfl rfl ?_
          refine z_callS (pc := 54) c_X9_place dX9_tell_54 l_RX9_98 m_MX9_place s_MX9_place rfl (by omega) rfl (Nat.le_of_ble_eq_true rfl) ?_
          rintro _ _ _ (⟨rfl, rfl, rfl⟩)
          try dsimp only [zov, Option.toList, List.cons_append, List.nil_append]
          refine z_iload_n (pc := 57) dX9_tell_57 rfl rfl ?_
          refine z_iastore (pc := 58) dX9_tell_58 (by assumption) (by with_reducible rfl) (by omega) (by decide) ?_
          refine z_aload_n (pc := 59) dX9_tell_59 rfl rfl ?_
          refine z_getR (pc := 60) dX9_tell_60 f_RX9_12 (by assumption) rfl ?_
          refine z_getR (pc := 63) dX9_tell_63 f_RX9_102 (by assumption) rfl ?_
          refine z_aload (pc := 66) dX9_tell_66 rfl ?_
          refine z_callV (pc := 68) (c_X7_takeCounts s0 (vS_c w0 hk) (zset1_bSc hB hk hx) t0) dX9_tell_68 l_RX9_105 m_MX7_takeCounts n_MX7_takeCounts e_MX7_takeCounts rfl (by omega) (by assumption) rfl rfl (Nat.le_of_ble_eq_true rfl) ?_
          rintro _ _ _ (⟨rfl, rfl, ⟨hv, hj⟩⟩)
          try dsimp only [zov, Option.toList, List.cons_append, List.nil_append]
          refine z_iload (pc := 71) dX9_tell_71 rfl ?_
          refine z_iret (pc := 73) dX9_tell_73 rfl ?_
          first
            | exact zPC_same hV (by rw [ftell, zC_n hc])
            | exact zPC_same hV (by rw [ftell, zC_y b2 b4 ha hbb, zR_n (isR_1 (by decide) hb22)])
            | exact zPC_same hV (by rw [ftell, zC_y b2 b4 ha hbb, zR_n (isR_2 (by decide) (Int32.not_le.mp hb28))])
            | (have hv9 := vC_n hV
               refine zPC_now hV (fun x q1 q2 => ?_) (fun x q1 q2 => hj x (by omega) (by omega)) (vP_tab (n := zset1 S.n (7 + (3 * a + b)) x) (I := zup I 3 (3 * a + b) (nI x)) (J := J) (vP_set hv9 (vS_c w0 hk) (fun y q1 q2 => zup_o (by omega)) (fun _ _ _ => rfl) (fun k q => zset1_o (by omega))) hv (fun y q1 q2 q3 => zup_o (by omega)) (fun k q => ztk_o q)) (ztk_bN (zset1_bN hb (zset1_bSc hB hk hx) (by omega) (by omega))) (by rw [ftell, zC_y b2 b4 ha hbb, zR_y (by decide) hx])
               rw [zup_o (by omega), zup_o (by omega)])
            | fail
        · skip
          refine z_bipush (pc := 31) (v := -2) dX9_tell_31 (by decide) ?_
          refine z_iret (pc := 33) dX9_tell_33 rfl ?_
          first
            | exact zPC_same hV (by rw [ftell, zC_n hc])
            | exact zPC_same hV (by rw [ftell, zC_y b2 b4 ha hbb, zR_n (isR_1 (by decide) hb22)])
            | exact zPC_same hV (by rw [ftell, zC_y b2 b4 ha hbb, zR_n (isR_2 (by decide) (Int32.not_le.mp hb28))])
            | (have hv9 := vC_n hV
               refine zPC_now hV (fun x q1 q2 => ?_) (fun x q1 q2 => hj x (by omega) (by omega)) (vP_tab (n := zset1 S.n (7 + (3 * a + b)) x) (I := zup I 3 (3 * a + b) (nI x)) (J := J) (vP_set hv9 (vS_c w0 hk) (fun y q1 q2 => zup_o (by omega)) (fun _ _ _ => rfl) (fun k q => zset1_o (by omega))) hv (fun y q1 q2 q3 => zup_o (by omega)) (fun k q => ztk_o q)) (ztk_bN (zset1_bN hb (zset1_bSc hB hk hx) (by omega) (by omega))) (by rw [ftell, zC_y b2 b4 ha hbb, zR_y (by decide) hx])
               rw [zup_o (by omega), zup_o (by omega)])
            | fail
  · skip
    try dsimp only [zov, Option.toList, List.cons_append, List.nil_append]
    first | refine z_if_neN (pc := 16) (tgt := 21) (by with_reducible rfl) dX9_tell_16 (by decide) (by omega) (fun hb16 => absurd hb16 (by decide)) (fun hb16 => ?_) | refine z_if_ne (pc := 16) (tgt := 21) dX9_tell_16 (by decide) (fun hb16 => absurd hb16 (by decide)) (fun hb16 => ?_)
    · skip
      refine z_iconst (pc := 19) (v := -1) dX9_tell_19 (by decide) ?_
      refine z_iret (pc := 20) dX9_tell_20 rfl ?_
      first
        | exact zPC_same hV (by rw [ftell, zC_n hc])
        | exact zPC_same hV (by rw [ftell, zC_y b2 b4 ha hbb, zR_n (isR_1 (by decide) hb22)])
        | exact zPC_same hV (by rw [ftell, zC_y b2 b4 ha hbb, zR_n (isR_2 (by decide) (Int32.not_le.mp hb28))])
        | (have hv9 := vC_n hV
           refine zPC_now hV (fun x q1 q2 => ?_) (fun x q1 q2 => hj x (by omega) (by omega)) (vP_tab (n := zset1 S.n (7 + (3 * a + b)) x) (I := zup I 3 (3 * a + b) (nI x)) (J := J) (vP_set hv9 (vS_c w0 hk) (fun y q1 q2 => zup_o (by omega)) (fun _ _ _ => rfl) (fun k q => zset1_o (by omega))) hv (fun y q1 q2 q3 => zup_o (by omega)) (fun k q => ztk_o q)) (ztk_bN (zset1_bN hb (zset1_bSc hB hk hx) (by omega) (by omega))) (by rw [ftell, zC_y b2 b4 ha hbb, zR_y (by decide) hx])
           rw [zup_o (by omega), zup_o (by omega)])
        | fail
set_option maxHeartbeats 2000000 in
set_option maxRecDepth 20000 in
theorem c_X9_mark {lay : List zL} {I : zI} {J : zJ} {S : zS} (hC : kC lay) (hV : vC I J S) {i j v : Int32} : zMet lay MX9_mark 3 [.ref 0, .int i, .int j, .int v] I J (fun r I' J' => zPC I J (fmark S i j v) r I' J') := by
  refine zMet_of (t := MX9_mark) (ls := [.ref 0, .int i, .int j, .int v, .null]) (by decide +kernel) (Nat.le_of_ble_eq_true rfl) rfl ?_
  obtain ⟨c0, ⟨cP, cG⟩, ⟨cX, cQ, cR⟩, ⟨cS, cB, cD⟩, cf1, cf2, cf3, cU⟩ := id hC
  have p0 : lay[1]? = some (.inl (2, [4, 8, 13, 16, 19])) := cP.1
  have s0 : kS lay 2 := cP.2.1
  obtain ⟨s1, s2, s3, s4⟩ := id s0
  have t0 : kT lay 6 := cP.2.2.1
  obtain ⟨t1, t2, t3, t4, t5⟩ := id t0
  have n5 : kN lay 11 5 := cP.2.2.2.1
  have n8 : kN lay 14 8 := cP.2.2.2.2.1
  have m8 : kN lay 17 8 := cP.2.2.2.2.2
  have w0 : vS I 2 S.n := hV.1.1.1
  have w1 : vT I J 6 S.n := hV.1.1.2.1
  have w5 : vN I 11 5 (S.n 4) (fun k => S.n (52 + k) / 100) (fun k => S.n (52 + k) % 100) := hV.1.1.2.2.1
  have w8 : vN I 14 8 (S.n 5) (fun k => S.n (57 + k) / 100) (fun k => S.n (57 + k) % 100) := hV.1.1.2.2.2.1
  have x8 : vN I 17 8 (S.n 6) (fun k => S.n (65 + k) / 100) (fun k => S.n (65 + k) % 100) := hV.1.1.2.2.2.2
  obtain ⟨v0, v1, v2, v3, v4, v5⟩ := id w0
  obtain ⟨y0, y1, y2⟩ := id w1
  have hb := hV.1.2
  have hB := hb.1
  have hT := hb.2.1
  obtain ⟨b1, b2, b3, b4, b5, b6, b7, b8⟩ := id hB
  have ox := cX.1
  have oq := cQ.1
  have ow := cR.1
  have od := cD.1
  have oe := cB.1
  have of1 := cS.1
  have of2 := cS.2.1
  have ou := cU.1
  have og := cG.1
  have on5 := n5.1
  have on8 := n8.1
  have om8 := m8.1
  have ov := cR.2.1.1
  have z1 := cf1
  have z2 := cf2
  have z3 := cf3
  unfold kF at z1 z2 z3
  refine z_aload_n (pc := 0) dX9_mark_0 rfl rfl ?_
  refine z_getR (pc := 1) dX9_mark_1 f_RX9_12 (by assumption) rfl ?_
  refine z_getR (pc := 4) dX9_mark_4 f_RX9_83 (by assumption) rfl ?_
  refine z_iload_n (pc := 7) dX9_mark_7 rfl rfl ?_
  refine z_iload_n (pc := 8) dX9_mark_8 rfl rfl ?_
  refine z_callV (pc := 9) (c_X6_hasCell s0 w0 hB) dX9_mark_9 l_RX9_90 m_MX6_hasCell n_MX6_hasCell e_MX6_hasCell rfl (by omega) (by assumption) rfl rfl (Nat.le_of_ble_eq_true rfl) ?_
  rintro _ _ _ ⟨⟨rfl, hc⟩ | ⟨rfl, hc⟩, rfl, rfl⟩
  · obtain ⟨a, b, rfl, rfl, ha, hbb⟩ := hc; have hk : 3 * a + b < 9 := (by omega)
    try dsimp only [zov, Option.toList, List.cons_append, List.nil_append]
    first | refine z_if_neN (pc := 12) (tgt := 17) (by with_reducible rfl) dX9_mark_12 (by decide) (by omega) (fun hb12 => ?_) (fun hb12 => absurd hb12 (by decide)) | refine z_if_ne (pc := 12) (tgt := 17) dX9_mark_12 (by decide) (fun hb12 => ?_) (fun hb12 => absurd hb12 (by decide))
    · skip
      refine z_iload_n (pc := 17) dX9_mark_17 rfl rfl ?_
      first | refine z_if_ltN (pc := 18) (tgt := 26) (by with_reducible rfl) dX9_mark_18 (by decide) (by omega) (fun hb18 => ?_) (fun hb18 => ?_) | refine z_if_lt (pc := 18) (tgt := 26) dX9_mark_18 (by decide) (fun hb18 => ?_) (fun hb18 => ?_)
      · skip
        refine z_bipush (pc := 26) (v := -2) dX9_mark_26 (by decide) ?_
        refine z_iret (pc := 28) dX9_mark_28 rfl ?_
        first
          | exact zPC_same hV (by rw [fmark, zC_n hc])
          | exact zPC_same hV (by rw [fmark, zC_y b2 b4 ha hbb, zR_n (isR_1 (by decide) hb18)])
          | exact zPC_same hV (by rw [fmark, zC_y b2 b4 ha hbb, zR_n (isR_2 (by decide) (Int32.not_le.mp hb23))])
          | exact zPC_now hV (fun x q1 q2 => zup_o (by omega)) (fun x q1 q2 => rfl) (vP_set (vC_n hV) (vS_k w0 hk) (fun y q1 q2 => zup_o (by omega)) (fun _ _ _ => rfl) (fun k q => zset1_o (by omega))) (zset1_bN hb (zset1_bSk hB hk hx) (by omega) (by omega)) (by rw [fmark, zC_y b2 b4 ha hbb, zR_y (by decide) hx])
          | fail
      · skip
        refine z_iload_n (pc := 21) dX9_mark_21 rfl rfl ?_
        refine z_iconst (pc := 22) (v := nI 2) dX9_mark_22 (by decide) ?_
        first | refine z_icmp_leN (pc := 23) (tgt := 29) (by with_reducible rfl) (by with_reducible rfl) dX9_mark_23 (by decide) (by omega) (by omega) (fun hb23 => ?_) (fun hb23 => ?_) | refine z_icmp_le (pc := 23) (tgt := 29) dX9_mark_23 (by decide) (fun hb23 => ?_) (fun hb23 => ?_)
        · skip
          obtain ⟨x, rfl, hx⟩ := nI_get2 (m := 2) (by omega) hb18 (Int32.not_lt.mpr hb23)
          refine z_aload_n (pc := 29) dX9_mark_29 rfl rfl ?_
          refine z_getR (pc := 30) dX9_mark_30 f_RX9_12 (by assumption) rfl ?_
          refine z_getR (pc := 33) dX9_mark_33 f_RX9_83 (by assumption) rfl ?_
          refine z_getR (pc := 36) dX9_mark_36 f_RX9_109 (by assumption) rfl ?_
          refine z_iload_n (pc := 39) dX9_mark_39 rfl rfl ?_
          refine z_iload_n (pc := 40) dX9_mark_40 rfl rfl ?_
          refine z_callS (pc := 41) c_X9_place dX9_mark_41 l_RX9_98 m_MX9_place s_MX9_place rfl (by omega) rfl (Nat.le_of_ble_eq_true rfl) ?_
          rintro _ _ _ (⟨rfl, rfl, rfl⟩)
          try dsimp only [zov, Option.toList, List.cons_append, List.nil_append]
          refine z_ialoadv (pc := 44) dX9_mark_44 (by assumption) (by with_reducible rfl) (by omega) (by decide) (by first | assumption | exact v3 _ (by omega) | exact v4 _ (by omega) | exact v5 _ (by omega) | exact y0 _ (by omega) | exact y1 _ (by omega) | rfl) ?_
          refine z_istore (pc := 45) dX9_mark_45 (by decide) rfl ?_
          try dsimp only [zst1, zst2, zk]
          refine z_aload_n (pc := 47) dX9_mark_47 rfl rfl ?_
          refine z_getR (pc := 48) dX9_mark_48 f_RX9_12 (by assumption) rfl ?_
          refine z_getR (pc := 51) dX9_mark_51 f_RX9_83 (by assumption) rfl ?_
          refine z_getR (pc := 54) dX9_mark_54 f_RX9_109 (by assumption) rfl ?_
          refine z_iload_n (pc := 57) dX9_mark_57 rfl rfl ?_
          refine z_iload_n (pc := 58) dX9_mark_58 rfl rfl ?_
          refine z_callS (pc := 59) c_X9_place dX9_mark_59 l_RX9_98 m_MX9_place s_MX9_place rfl (by omega) rfl (Nat.le_of_ble_eq_true rfl) ?_
          rintro _ _ _ (⟨rfl, rfl, rfl⟩)
          try dsimp only [zov, Option.toList, List.cons_append, List.nil_append]
          refine z_iload_n (pc := 62) dX9_mark_62 rfl rfl ?_
          refine z_iastore (pc := 63) dX9_mark_63 (by assumption) (by with_reducible rfl) (by omega) (by decide) ?_
          refine z_iload (pc := 64) dX9_mark_64 rfl ?_
          refine z_iret (pc := 66) dX9_mark_66 rfl ?_
          first
            | exact zPC_same hV (by rw [fmark, zC_n hc])
            | exact zPC_same hV (by rw [fmark, zC_y b2 b4 ha hbb, zR_n (isR_1 (by decide) hb18)])
            | exact zPC_same hV (by rw [fmark, zC_y b2 b4 ha hbb, zR_n (isR_2 (by decide) (Int32.not_le.mp hb23))])
            | exact zPC_now hV (fun x q1 q2 => zup_o (by omega)) (fun x q1 q2 => rfl) (vP_set (vC_n hV) (vS_k w0 hk) (fun y q1 q2 => zup_o (by omega)) (fun _ _ _ => rfl) (fun k q => zset1_o (by omega))) (zset1_bN hb (zset1_bSk hB hk hx) (by omega) (by omega)) (by rw [fmark, zC_y b2 b4 ha hbb, zR_y (by decide) hx])
            | fail
        · skip
          refine z_bipush (pc := 26) (v := -2) dX9_mark_26 (by decide) ?_
          refine z_iret (pc := 28) dX9_mark_28 rfl ?_
          first
            | exact zPC_same hV (by rw [fmark, zC_n hc])
            | exact zPC_same hV (by rw [fmark, zC_y b2 b4 ha hbb, zR_n (isR_1 (by decide) hb18)])
            | exact zPC_same hV (by rw [fmark, zC_y b2 b4 ha hbb, zR_n (isR_2 (by decide) (Int32.not_le.mp hb23))])
            | exact zPC_now hV (fun x q1 q2 => zup_o (by omega)) (fun x q1 q2 => rfl) (vP_set (vC_n hV) (vS_k w0 hk) (fun y q1 q2 => zup_o (by omega)) (fun _ _ _ => rfl) (fun k q => zset1_o (by omega))) (zset1_bN hb (zset1_bSk hB hk hx) (by omega) (by omega)) (by rw [fmark, zC_y b2 b4 ha hbb, zR_y (by decide) hx])
            | fail
  · skip
    try dsimp only [zov, Option.toList, List.cons_append, List.nil_append]
    first | refine z_if_neN (pc := 12) (tgt := 17) (by with_reducible rfl) dX9_mark_12 (by decide) (by omega) (fun hb12 => absurd hb12 (by decide)) (fun hb12 => ?_) | refine z_if_ne (pc := 12) (tgt := 17) dX9_mark_12 (by decide) (fun hb12 => absurd hb12 (by decide)) (fun hb12 => ?_)
    · skip
      refine z_iconst (pc := 15) (v := -1) dX9_mark_15 (by decide) ?_
      refine z_iret (pc := 16) dX9_mark_16 rfl ?_
      first
        | exact zPC_same hV (by rw [fmark, zC_n hc])
        | exact zPC_same hV (by rw [fmark, zC_y b2 b4 ha hbb, zR_n (isR_1 (by decide) hb18)])
        | exact zPC_same hV (by rw [fmark, zC_y b2 b4 ha hbb, zR_n (isR_2 (by decide) (Int32.not_le.mp hb23))])
        | exact zPC_now hV (fun x q1 q2 => zup_o (by omega)) (fun x q1 q2 => rfl) (vP_set (vC_n hV) (vS_k w0 hk) (fun y q1 q2 => zup_o (by omega)) (fun _ _ _ => rfl) (fun k q => zset1_o (by omega))) (zset1_bN hb (zset1_bSk hB hk hx) (by omega) (by omega)) (by rw [fmark, zC_y b2 b4 ha hbb, zR_y (by decide) hx])
        | fail
set_option maxHeartbeats 2000000 in
set_option maxRecDepth 20000 in
theorem c_X9_margin {lay : List zL} {I : zI} {J : zJ} {S : zS} (hC : kC lay) (hV : vC I J S) {w l v : Int32} : zMet lay MX9_margin 3 [.ref 0, .int w, .int l, .int v] I J (fun r I' J' => zPC I J (fmargin S w l v) r I' J') := by
  refine zMet_of (t := MX9_margin) (ls := [.ref 0, .int w, .int l, .int v, .null]) (by decide +kernel) (Nat.le_of_ble_eq_true rfl) rfl ?_
  obtain ⟨c0, ⟨cP, cG⟩, ⟨cX, cQ, cR⟩, ⟨cS, cB, cD⟩, cf1, cf2, cf3, cU⟩ := id hC
  have p0 : lay[1]? = some (.inl (2, [4, 8, 13, 16, 19])) := cP.1
  have s0 : kS lay 2 := cP.2.1
  obtain ⟨s1, s2, s3, s4⟩ := id s0
  have t0 : kT lay 6 := cP.2.2.1
  obtain ⟨t1, t2, t3, t4, t5⟩ := id t0
  have n5 : kN lay 11 5 := cP.2.2.2.1
  have n8 : kN lay 14 8 := cP.2.2.2.2.1
  have m8 : kN lay 17 8 := cP.2.2.2.2.2
  have w0 : vS I 2 S.n := hV.1.1.1
  have w1 : vT I J 6 S.n := hV.1.1.2.1
  have w5 : vN I 11 5 (S.n 4) (fun k => S.n (52 + k) / 100) (fun k => S.n (52 + k) % 100) := hV.1.1.2.2.1
  have w8 : vN I 14 8 (S.n 5) (fun k => S.n (57 + k) / 100) (fun k => S.n (57 + k) % 100) := hV.1.1.2.2.2.1
  have x8 : vN I 17 8 (S.n 6) (fun k => S.n (65 + k) / 100) (fun k => S.n (65 + k) % 100) := hV.1.1.2.2.2.2
  obtain ⟨v0, v1, v2, v3, v4, v5⟩ := id w0
  obtain ⟨y0, y1, y2⟩ := id w1
  have hb := hV.1.2
  have hB := hb.1
  have hT := hb.2.1
  obtain ⟨b1, b2, b3, b4, b5, b6, b7, b8⟩ := id hB
  have ox := cX.1
  have oq := cQ.1
  have ow := cR.1
  have od := cD.1
  have oe := cB.1
  have of1 := cS.1
  have of2 := cS.2.1
  have ou := cU.1
  have og := cG.1
  have on5 := n5.1
  have on8 := n8.1
  have om8 := m8.1
  have ov := cR.2.1.1
  have z1 := cf1
  have z2 := cf2
  have z3 := cf3
  unfold kF at z1 z2 z3
  refine z_aload_n (pc := 0) dX9_margin_0 rfl rfl ?_
  refine z_getR (pc := 1) dX9_margin_1 f_RX9_12 (by assumption) rfl ?_
  refine z_getR (pc := 4) dX9_margin_4 f_RX9_83 (by assumption) rfl ?_
  refine z_iload_n (pc := 7) dX9_margin_7 rfl rfl ?_
  refine z_iload_n (pc := 8) dX9_margin_8 rfl rfl ?_
  refine z_callV (pc := 9) (c_X6_hasLine s0 w0 hB) dX9_margin_9 l_RX9_112 m_MX6_hasLine n_MX6_hasLine e_MX6_hasLine rfl (by omega) (by assumption) rfl rfl (Nat.le_of_ble_eq_true rfl) ?_
  rintro _ _ _ ⟨⟨rfl, hc⟩ | ⟨rfl, hc⟩, rfl, rfl⟩
  · obtain ⟨a, b, rfl, rfl, ha, hbb⟩ := hc; have hz := zlines_le (w := a) b2 b4; have hk : 3 * a + b < 9 := (by omega)
    try dsimp only [zov, Option.toList, List.cons_append, List.nil_append]
    first | refine z_if_neN (pc := 12) (tgt := 17) (by with_reducible rfl) dX9_margin_12 (by decide) (by omega) (fun hb12 => ?_) (fun hb12 => absurd hb12 (by decide)) | refine z_if_ne (pc := 12) (tgt := 17) dX9_margin_12 (by decide) (fun hb12 => ?_) (fun hb12 => absurd hb12 (by decide))
    · skip
      refine z_iload_n (pc := 17) dX9_margin_17 rfl rfl ?_
      first | refine z_if_ltN (pc := 18) (tgt := 27) (by with_reducible rfl) dX9_margin_18 (by decide) (by omega) (fun hb18 => ?_) (fun hb18 => ?_) | refine z_if_lt (pc := 18) (tgt := 27) dX9_margin_18 (by decide) (fun hb18 => ?_) (fun hb18 => ?_)
      · skip
        refine z_bipush (pc := 27) (v := -2) dX9_margin_27 (by decide) ?_
        refine z_iret (pc := 29) dX9_margin_29 rfl ?_
        first
          | exact zPC_same hV (by rw [fmargin, zLn_n hc])
          | exact zPC_same hV (by rw [fmargin, zLn_y b2 b4 ha hbb, zR_n (isR_1 (by decide) hb18)])
          | exact zPC_same hV (by rw [fmargin, zLn_y b2 b4 ha hbb, zR_n (isR_2 (by decide) (Int32.not_le.mp hb24))])
          | exact zPC_now hV (fun x q1 q2 => zup_o (by omega)) (fun x q1 q2 => rfl) (vP_set (vC_n hV) (vS_m w0 hk) (fun y q1 q2 => zup_o (by omega)) (fun _ _ _ => rfl) (fun k q => zset1_o (by omega))) (zset1_bN hb (zset1_bSm hB hk hx) (by omega) (by omega)) (by rw [fmargin, zLn_y b2 b4 ha hbb, zR_y (by decide) hx])
          | fail
      · skip
        refine z_iload_n (pc := 21) dX9_margin_21 rfl rfl ?_
        refine z_bipush (pc := 22) (v := nI 60) dX9_margin_22 (by decide) ?_
        first | refine z_icmp_leN (pc := 24) (tgt := 30) (by with_reducible rfl) (by with_reducible rfl) dX9_margin_24 (by decide) (by omega) (by omega) (fun hb24 => ?_) (fun hb24 => ?_) | refine z_icmp_le (pc := 24) (tgt := 30) dX9_margin_24 (by decide) (fun hb24 => ?_) (fun hb24 => ?_)
        · skip
          obtain ⟨x, rfl, hx⟩ := nI_get2 (m := 60) (by omega) hb18 (Int32.not_lt.mpr hb24)
          refine z_aload_n (pc := 30) dX9_margin_30 rfl rfl ?_
          refine z_getR (pc := 31) dX9_margin_31 f_RX9_12 (by assumption) rfl ?_
          refine z_getR (pc := 34) dX9_margin_34 f_RX9_83 (by assumption) rfl ?_
          refine z_getR (pc := 37) dX9_margin_37 f_RX9_115 (by assumption) rfl ?_
          refine z_iload_n (pc := 40) dX9_margin_40 rfl rfl ?_
          refine z_iload_n (pc := 41) dX9_margin_41 rfl rfl ?_
          refine z_callS (pc := 42) c_X9_place dX9_margin_42 l_RX9_98 m_MX9_place s_MX9_place rfl (by omega) rfl (Nat.le_of_ble_eq_true rfl) ?_
          rintro _ _ _ (⟨rfl, rfl, rfl⟩)
          try dsimp only [zov, Option.toList, List.cons_append, List.nil_append]
          refine z_ialoadv (pc := 45) dX9_margin_45 (by assumption) (by with_reducible rfl) (by omega) (by decide) (by first | assumption | exact v3 _ (by omega) | exact v4 _ (by omega) | exact v5 _ (by omega) | exact y0 _ (by omega) | exact y1 _ (by omega) | rfl) ?_
          refine z_istore (pc := 46) dX9_margin_46 (by decide) rfl ?_
          try dsimp only [zst1, zst2, zk]
          refine z_aload_n (pc := 48) dX9_margin_48 rfl rfl ?_
          refine z_getR (pc := 49) dX9_margin_49 f_RX9_12 (by assumption) rfl ?_
          refine z_getR (pc := 52) dX9_margin_52 f_RX9_83 (by assumption) rfl ?_
          refine z_getR (pc := 55) dX9_margin_55 f_RX9_115 (by assumption) rfl ?_
          refine z_iload_n (pc := 58) dX9_margin_58 rfl rfl ?_
          refine z_iload_n (pc := 59) dX9_margin_59 rfl rfl ?_
          refine z_callS (pc := 60) c_X9_place dX9_margin_60 l_RX9_98 m_MX9_place s_MX9_place rfl (by omega) rfl (Nat.le_of_ble_eq_true rfl) ?_
          rintro _ _ _ (⟨rfl, rfl, rfl⟩)
          try dsimp only [zov, Option.toList, List.cons_append, List.nil_append]
          refine z_iload_n (pc := 63) dX9_margin_63 rfl rfl ?_
          refine z_iastore (pc := 64) dX9_margin_64 (by assumption) (by with_reducible rfl) (by omega) (by decide) ?_
          refine z_iload (pc := 65) dX9_margin_65 rfl ?_
          refine z_iret (pc := 67) dX9_margin_67 rfl ?_
          first
            | exact zPC_same hV (by rw [fmargin, zLn_n hc])
            | exact zPC_same hV (by rw [fmargin, zLn_y b2 b4 ha hbb, zR_n (isR_1 (by decide) hb18)])
            | exact zPC_same hV (by rw [fmargin, zLn_y b2 b4 ha hbb, zR_n (isR_2 (by decide) (Int32.not_le.mp hb24))])
            | exact zPC_now hV (fun x q1 q2 => zup_o (by omega)) (fun x q1 q2 => rfl) (vP_set (vC_n hV) (vS_m w0 hk) (fun y q1 q2 => zup_o (by omega)) (fun _ _ _ => rfl) (fun k q => zset1_o (by omega))) (zset1_bN hb (zset1_bSm hB hk hx) (by omega) (by omega)) (by rw [fmargin, zLn_y b2 b4 ha hbb, zR_y (by decide) hx])
            | fail
        · skip
          refine z_bipush (pc := 27) (v := -2) dX9_margin_27 (by decide) ?_
          refine z_iret (pc := 29) dX9_margin_29 rfl ?_
          first
            | exact zPC_same hV (by rw [fmargin, zLn_n hc])
            | exact zPC_same hV (by rw [fmargin, zLn_y b2 b4 ha hbb, zR_n (isR_1 (by decide) hb18)])
            | exact zPC_same hV (by rw [fmargin, zLn_y b2 b4 ha hbb, zR_n (isR_2 (by decide) (Int32.not_le.mp hb24))])
            | exact zPC_now hV (fun x q1 q2 => zup_o (by omega)) (fun x q1 q2 => rfl) (vP_set (vC_n hV) (vS_m w0 hk) (fun y q1 q2 => zup_o (by omega)) (fun _ _ _ => rfl) (fun k q => zset1_o (by omega))) (zset1_bN hb (zset1_bSm hB hk hx) (by omega) (by omega)) (by rw [fmargin, zLn_y b2 b4 ha hbb, zR_y (by decide) hx])
            | fail
  · skip
    try dsimp only [zov, Option.toList, List.cons_append, List.nil_append]
    first | refine z_if_neN (pc := 12) (tgt := 17) (by with_reducible rfl) dX9_margin_12 (by decide) (by omega) (fun hb12 => absurd hb12 (by decide)) (fun hb12 => ?_) | refine z_if_ne (pc := 12) (tgt := 17) dX9_margin_12 (by decide) (fun hb12 => absurd hb12 (by decide)) (fun hb12 => ?_)
    · skip
      refine z_iconst (pc := 15) (v := -1) dX9_margin_15 (by decide) ?_
      refine z_iret (pc := 16) dX9_margin_16 rfl ?_
      first
        | exact zPC_same hV (by rw [fmargin, zLn_n hc])
        | exact zPC_same hV (by rw [fmargin, zLn_y b2 b4 ha hbb, zR_n (isR_1 (by decide) hb18)])
        | exact zPC_same hV (by rw [fmargin, zLn_y b2 b4 ha hbb, zR_n (isR_2 (by decide) (Int32.not_le.mp hb24))])
        | exact zPC_now hV (fun x q1 q2 => zup_o (by omega)) (fun x q1 q2 => rfl) (vP_set (vC_n hV) (vS_m w0 hk) (fun y q1 q2 => zup_o (by omega)) (fun _ _ _ => rfl) (fun k q => zset1_o (by omega))) (zset1_bN hb (zset1_bSm hB hk hx) (by omega) (by omega)) (by rw [fmargin, zLn_y b2 b4 ha hbb, zR_y (by decide) hx])
        | fail
set_option maxHeartbeats 2000000 in
set_option maxRecDepth 20000 in
theorem c_X9_three {lay : List zL} {I : zI} {J : zJ} {S : zS} (hC : kC lay) (hV : vC I J S) {x : Nat} (hx : x ≤ 1) : zMet lay MX9_three 3 [.ref 0, .int (nI x)] I J (fun r I' J' => zPC I J (fthree S x) r I' J') := by
  refine zMet_of (t := MX9_three) (ls := [.ref 0, .int (nI x), .null]) (by decide +kernel) (Nat.le_of_ble_eq_true rfl) rfl ?_
  obtain ⟨c0, ⟨cP, cG⟩, ⟨cX, cQ, cR⟩, ⟨cS, cB, cD⟩, cf1, cf2, cf3, cU⟩ := id hC
  have p0 : lay[1]? = some (.inl (2, [4, 8, 13, 16, 19])) := cP.1
  have s0 : kS lay 2 := cP.2.1
  obtain ⟨s1, s2, s3, s4⟩ := id s0
  have t0 : kT lay 6 := cP.2.2.1
  obtain ⟨t1, t2, t3, t4, t5⟩ := id t0
  have n5 : kN lay 11 5 := cP.2.2.2.1
  have n8 : kN lay 14 8 := cP.2.2.2.2.1
  have m8 : kN lay 17 8 := cP.2.2.2.2.2
  have w0 : vS I 2 S.n := hV.1.1.1
  have w1 : vT I J 6 S.n := hV.1.1.2.1
  have w5 : vN I 11 5 (S.n 4) (fun k => S.n (52 + k) / 100) (fun k => S.n (52 + k) % 100) := hV.1.1.2.2.1
  have w8 : vN I 14 8 (S.n 5) (fun k => S.n (57 + k) / 100) (fun k => S.n (57 + k) % 100) := hV.1.1.2.2.2.1
  have x8 : vN I 17 8 (S.n 6) (fun k => S.n (65 + k) / 100) (fun k => S.n (65 + k) % 100) := hV.1.1.2.2.2.2
  obtain ⟨v0, v1, v2, v3, v4, v5⟩ := id w0
  obtain ⟨y0, y1, y2⟩ := id w1
  have hb := hV.1.2
  have hB := hb.1
  have hT := hb.2.1
  obtain ⟨b1, b2, b3, b4, b5, b6, b7, b8⟩ := id hB
  have ox := cX.1
  have oq := cQ.1
  have ow := cR.1
  have od := cD.1
  have oe := cB.1
  have of1 := cS.1
  have of2 := cS.2.1
  have ou := cU.1
  have og := cG.1
  have on5 := n5.1
  have on8 := n8.1
  have om8 := m8.1
  have ov := cR.2.1.1
  have z1 := cf1
  have z2 := cf2
  have z3 := cf3
  unfold kF at z1 z2 z3
  refine z_aload_n (pc := 0) dX9_three_0 rfl rfl ?_
  refine z_getR (pc := 1) dX9_three_1 f_RX9_12 (by assumption) rfl ?_
  refine z_getR (pc := 4) dX9_three_4 f_RX9_83 (by assumption) rfl ?_
  refine z_getIv (pc := 7) dX9_three_7 f_RX9_118 (by assumption) rfl (by first | assumption | exact v3 _ (by omega) | exact v4 _ (by omega) | exact v5 _ (by omega) | exact y0 _ (by omega) | exact y1 _ (by omega) | rfl) ?_
  refine z_callS (pc := 10) (c_X9_oneIf b5) dX9_three_10 l_RX9_122 m_MX9_oneIf s_MX9_oneIf rfl (by omega) rfl (Nat.le_of_ble_eq_true rfl) ?_
  rintro _ _ _ (⟨rfl, rfl, rfl⟩)
  try dsimp only [zov, Option.toList, List.cons_append, List.nil_append]
  refine z_istore_n (pc := 13) dX9_three_13 rfl (by decide) rfl ?_
  try dsimp only [zst1, zst2, zk]
  refine z_aload_n (pc := 14) dX9_three_14 rfl rfl ?_
  refine z_getR (pc := 15) dX9_three_15 f_RX9_12 (by assumption) rfl ?_
  refine z_getR (pc := 18) dX9_three_18 f_RX9_83 (by assumption) rfl ?_
  refine z_iload_n (pc := 21) dX9_three_21 rfl rfl ?_
  refine z_putZ (pc := 22) dX9_three_22 f_RX9_118 (by assumption) rfl (by first | assumption | decide | exact zb01 (by assumption)) ?_
  refine z_iload_n (pc := 25) dX9_three_25 rfl rfl ?_
  refine z_iret (pc := 26) dX9_three_26 rfl ?_
  exact zPC_now hV (fun x q1 q2 => zup_o (by omega)) (fun x q1 q2 => rfl) (vP_set (vC_n hV) (vS_3 w0) (fun y q1 q2 => zup_o (by omega)) (fun _ _ _ => rfl) (fun k q => zset1_o (by omega))) (zset1_bN hb (zset1_bS2 hB hx) (by omega) (by omega)) rfl
set_option maxHeartbeats 2000000 in
set_option maxRecDepth 20000 in
theorem c_X9_of {lay : List zL} {I : zI} {J : zJ} {S : zS} (hC : kC lay) (hV : vC I J S) {i j w : Int32} : zMet lay MX9_of 3 [.ref 0, .int i, .int j, .int w] I J (fun r I' J' => zPC I J (fof S i j w) r I' J') := by
  refine zMet_of (t := MX9_of) (ls := [.ref 0, .int i, .int j, .int w]) (by decide +kernel) (Nat.le_of_ble_eq_true rfl) rfl ?_
  obtain ⟨c0, ⟨cP, cG⟩, ⟨cX, cQ, cR⟩, ⟨cS, cB, cD⟩, cf1, cf2, cf3, cU⟩ := id hC
  have p0 : lay[1]? = some (.inl (2, [4, 8, 13, 16, 19])) := cP.1
  have s0 : kS lay 2 := cP.2.1
  obtain ⟨s1, s2, s3, s4⟩ := id s0
  have t0 : kT lay 6 := cP.2.2.1
  obtain ⟨t1, t2, t3, t4, t5⟩ := id t0
  have n5 : kN lay 11 5 := cP.2.2.2.1
  have n8 : kN lay 14 8 := cP.2.2.2.2.1
  have m8 : kN lay 17 8 := cP.2.2.2.2.2
  have w0 : vS I 2 S.n := hV.1.1.1
  have w1 : vT I J 6 S.n := hV.1.1.2.1
  have w5 : vN I 11 5 (S.n 4) (fun k => S.n (52 + k) / 100) (fun k => S.n (52 + k) % 100) := hV.1.1.2.2.1
  have w8 : vN I 14 8 (S.n 5) (fun k => S.n (57 + k) / 100) (fun k => S.n (57 + k) % 100) := hV.1.1.2.2.2.1
  have x8 : vN I 17 8 (S.n 6) (fun k => S.n (65 + k) / 100) (fun k => S.n (65 + k) % 100) := hV.1.1.2.2.2.2
  obtain ⟨v0, v1, v2, v3, v4, v5⟩ := id w0
  obtain ⟨y0, y1, y2⟩ := id w1
  have hb := hV.1.2
  have hB := hb.1
  have hT := hb.2.1
  obtain ⟨b1, b2, b3, b4, b5, b6, b7, b8⟩ := id hB
  have ox := cX.1
  have oq := cQ.1
  have ow := cR.1
  have od := cD.1
  have oe := cB.1
  have of1 := cS.1
  have of2 := cS.2.1
  have ou := cU.1
  have og := cG.1
  have on5 := n5.1
  have on8 := n8.1
  have om8 := m8.1
  have ov := cR.2.1.1
  have z1 := cf1
  have z2 := cf2
  have z3 := cf3
  unfold kF at z1 z2 z3
  refine z_aload_n (pc := 0) dX9_of_0 rfl rfl ?_
  refine z_getR (pc := 1) dX9_of_1 f_RX9_12 (by assumption) rfl ?_
  refine z_getR (pc := 4) dX9_of_4 f_RX9_83 (by assumption) rfl ?_
  refine z_iload_n (pc := 7) dX9_of_7 rfl rfl ?_
  refine z_iload_n (pc := 8) dX9_of_8 rfl rfl ?_
  refine z_callV (pc := 9) (c_X6_hasCell s0 w0 hB) dX9_of_9 l_RX9_90 m_MX6_hasCell n_MX6_hasCell e_MX6_hasCell rfl (by omega) (by assumption) rfl rfl (Nat.le_of_ble_eq_true rfl) ?_
  rintro _ _ _ ⟨⟨rfl, hc⟩ | ⟨rfl, hc⟩, rfl, rfl⟩
  · obtain ⟨a, b, rfl, rfl, ha, hbb⟩ := hc; have hk : 3 * a + b < 9 := (by omega)
    try dsimp only [zov, Option.toList, List.cons_append, List.nil_append]
    first | refine z_if_neN (pc := 12) (tgt := 17) (by with_reducible rfl) dX9_of_12 (by decide) (by omega) (fun hb12 => ?_) (fun hb12 => absurd hb12 (by decide)) | refine z_if_ne (pc := 12) (tgt := 17) dX9_of_12 (by decide) (fun hb12 => ?_) (fun hb12 => absurd hb12 (by decide))
    · skip
      refine z_iload_n (pc := 17) dX9_of_17 rfl rfl ?_
      by_cases hsw0 : w = nI 0
      · subst hsw0
        refine z_lookup (pc := 18) (off := 26) (tgt := 44) dX9_of_18 (by decide) (by decide) (by decide) ?_
        refine z_aload_n (pc := 44) dX9_of_44 rfl rfl ?_
        refine z_getR (pc := 45) dX9_of_45 f_RX9_12 (by assumption) rfl ?_
        refine z_getR (pc := 48) dX9_of_48 f_RX9_83 (by assumption) rfl ?_
        refine z_getR (pc := 51) dX9_of_51 f_RX9_94 (by assumption) rfl ?_
        refine z_iload_n (pc := 54) dX9_of_54 rfl rfl ?_
        refine z_iload_n (pc := 55) dX9_of_55 rfl rfl ?_
        refine z_callS (pc := 56) c_X9_place dX9_of_56 l_RX9_98 m_MX9_place s_MX9_place rfl (by omega) rfl (Nat.le_of_ble_eq_true rfl) ?_
        rintro _ _ _ (⟨rfl, rfl, rfl⟩)
        try dsimp only [zov, Option.toList, List.cons_append, List.nil_append]
        refine z_ialoadv (pc := 59) dX9_of_59 (by assumption) (by with_reducible rfl) (by omega) (by decide) (by first | assumption | exact v3 _ (by omega) | exact v4 _ (by omega) | exact v5 _ (by omega) | exact y0 _ (by omega) | exact y1 _ (by omega) | rfl) ?_
        refine z_iret (pc := 60) dX9_of_60 rfl ?_
        first
          | exact zPC_same hV (by rw [fof, zC_n hc])
          | exact zPC_same hV (by rw [fof, zC_y b2 b4 ha hbb]; rfl)
          | exact zPC_same hV (by rw [fof, zC_y b2 b4 ha hbb]; dsimp only; rw [if_neg hsw0, if_neg hsw1])
          | fail
      by_cases hsw1 : w = nI 1
      · subst hsw1
        refine z_lookup (pc := 18) (off := 43) (tgt := 61) dX9_of_18 (by decide) (by decide) (by decide) ?_
        refine z_aload_n (pc := 61) dX9_of_61 rfl rfl ?_
        refine z_getR (pc := 62) dX9_of_62 f_RX9_12 (by assumption) rfl ?_
        refine z_getR (pc := 65) dX9_of_65 f_RX9_83 (by assumption) rfl ?_
        refine z_getR (pc := 68) dX9_of_68 f_RX9_109 (by assumption) rfl ?_
        refine z_iload_n (pc := 71) dX9_of_71 rfl rfl ?_
        refine z_iload_n (pc := 72) dX9_of_72 rfl rfl ?_
        refine z_callS (pc := 73) c_X9_place dX9_of_73 l_RX9_98 m_MX9_place s_MX9_place rfl (by omega) rfl (Nat.le_of_ble_eq_true rfl) ?_
        rintro _ _ _ (⟨rfl, rfl, rfl⟩)
        try dsimp only [zov, Option.toList, List.cons_append, List.nil_append]
        refine z_ialoadv (pc := 76) dX9_of_76 (by assumption) (by with_reducible rfl) (by omega) (by decide) (by first | assumption | exact v3 _ (by omega) | exact v4 _ (by omega) | exact v5 _ (by omega) | exact y0 _ (by omega) | exact y1 _ (by omega) | rfl) ?_
        refine z_iret (pc := 77) dX9_of_77 rfl ?_
        first
          | exact zPC_same hV (by rw [fof, zC_n hc])
          | exact zPC_same hV (by rw [fof, zC_y b2 b4 ha hbb]; rfl)
          | exact zPC_same hV (by rw [fof, zC_y b2 b4 ha hbb]; dsimp only; rw [if_neg hsw0, if_neg hsw1])
          | fail
      · skip
        have e0 : w.toInt ≠ 0 := fun h => hsw0 (Int32.toInt_inj.mp (h.trans (by decide))); have e1 : w.toInt ≠ 1 := fun h => hsw1 (Int32.toInt_inj.mp (h.trans (by decide)))
        refine z_lookup (pc := 18) (off := 60) (tgt := 78) dX9_of_18 (by decide) (by simp [Op.lookupswitch.offset, Ne.symm e0, Ne.symm e1, e0, e1]) (by decide) ?_
        refine z_iconst (pc := 78) (v := -1) dX9_of_78 (by decide) ?_
        refine z_iret (pc := 79) dX9_of_79 rfl ?_
        first
          | exact zPC_same hV (by rw [fof, zC_n hc])
          | exact zPC_same hV (by rw [fof, zC_y b2 b4 ha hbb]; rfl)
          | exact zPC_same hV (by rw [fof, zC_y b2 b4 ha hbb]; dsimp only; rw [if_neg hsw0, if_neg hsw1])
          | fail
  · skip
    try dsimp only [zov, Option.toList, List.cons_append, List.nil_append]
    first | refine z_if_neN (pc := 12) (tgt := 17) (by with_reducible rfl) dX9_of_12 (by decide) (by omega) (fun hb12 => absurd hb12 (by decide)) (fun hb12 => ?_) | refine z_if_ne (pc := 12) (tgt := 17) dX9_of_12 (by decide) (fun hb12 => absurd hb12 (by decide)) (fun hb12 => ?_)
    · skip
      refine z_iconst (pc := 15) (v := -1) dX9_of_15 (by decide) ?_
      refine z_iret (pc := 16) dX9_of_16 rfl ?_
      first
        | exact zPC_same hV (by rw [fof, zC_n hc])
        | exact zPC_same hV (by rw [fof, zC_y b2 b4 ha hbb]; rfl)
        | exact zPC_same hV (by rw [fof, zC_y b2 b4 ha hbb]; dsimp only; rw [if_neg hsw0, if_neg hsw1])
        | fail
set_option maxHeartbeats 2000000 in
set_option maxRecDepth 20000 in
theorem c_X9_marginOf {lay : List zL} {I : zI} {J : zJ} {S : zS} (hC : kC lay) (hV : vC I J S) {w l : Int32} : zMet lay MX9_marginOf 3 [.ref 0, .int w, .int l] I J (fun r I' J' => zPC I J (fmarginOf S w l) r I' J') := by
  refine zMet_of (t := MX9_marginOf) (ls := [.ref 0, .int w, .int l]) (by decide +kernel) (Nat.le_of_ble_eq_true rfl) rfl ?_
  obtain ⟨c0, ⟨cP, cG⟩, ⟨cX, cQ, cR⟩, ⟨cS, cB, cD⟩, cf1, cf2, cf3, cU⟩ := id hC
  have p0 : lay[1]? = some (.inl (2, [4, 8, 13, 16, 19])) := cP.1
  have s0 : kS lay 2 := cP.2.1
  obtain ⟨s1, s2, s3, s4⟩ := id s0
  have t0 : kT lay 6 := cP.2.2.1
  obtain ⟨t1, t2, t3, t4, t5⟩ := id t0
  have n5 : kN lay 11 5 := cP.2.2.2.1
  have n8 : kN lay 14 8 := cP.2.2.2.2.1
  have m8 : kN lay 17 8 := cP.2.2.2.2.2
  have w0 : vS I 2 S.n := hV.1.1.1
  have w1 : vT I J 6 S.n := hV.1.1.2.1
  have w5 : vN I 11 5 (S.n 4) (fun k => S.n (52 + k) / 100) (fun k => S.n (52 + k) % 100) := hV.1.1.2.2.1
  have w8 : vN I 14 8 (S.n 5) (fun k => S.n (57 + k) / 100) (fun k => S.n (57 + k) % 100) := hV.1.1.2.2.2.1
  have x8 : vN I 17 8 (S.n 6) (fun k => S.n (65 + k) / 100) (fun k => S.n (65 + k) % 100) := hV.1.1.2.2.2.2
  obtain ⟨v0, v1, v2, v3, v4, v5⟩ := id w0
  obtain ⟨y0, y1, y2⟩ := id w1
  have hb := hV.1.2
  have hB := hb.1
  have hT := hb.2.1
  obtain ⟨b1, b2, b3, b4, b5, b6, b7, b8⟩ := id hB
  have ox := cX.1
  have oq := cQ.1
  have ow := cR.1
  have od := cD.1
  have oe := cB.1
  have of1 := cS.1
  have of2 := cS.2.1
  have ou := cU.1
  have og := cG.1
  have on5 := n5.1
  have on8 := n8.1
  have om8 := m8.1
  have ov := cR.2.1.1
  have z1 := cf1
  have z2 := cf2
  have z3 := cf3
  unfold kF at z1 z2 z3
  refine z_aload_n (pc := 0) dX9_marginOf_0 rfl rfl ?_
  refine z_getR (pc := 1) dX9_marginOf_1 f_RX9_12 (by assumption) rfl ?_
  refine z_getR (pc := 4) dX9_marginOf_4 f_RX9_83 (by assumption) rfl ?_
  refine z_iload_n (pc := 7) dX9_marginOf_7 rfl rfl ?_
  refine z_iload_n (pc := 8) dX9_marginOf_8 rfl rfl ?_
  refine z_callV (pc := 9) (c_X6_hasLine s0 w0 hB) dX9_marginOf_9 l_RX9_112 m_MX6_hasLine n_MX6_hasLine e_MX6_hasLine rfl (by omega) (by assumption) rfl rfl (Nat.le_of_ble_eq_true rfl) ?_
  rintro _ _ _ ⟨⟨rfl, hc⟩ | ⟨rfl, hc⟩, rfl, rfl⟩
  · obtain ⟨a, b, rfl, rfl, ha, hbb⟩ := hc; have hz := zlines_le (w := a) b2 b4; have hk : 3 * a + b < 9 := (by omega)
    try dsimp only [zov, Option.toList, List.cons_append, List.nil_append]
    first | refine z_if_neN (pc := 12) (tgt := 17) (by with_reducible rfl) dX9_marginOf_12 (by decide) (by omega) (fun hb12 => ?_) (fun hb12 => absurd hb12 (by decide)) | refine z_if_ne (pc := 12) (tgt := 17) dX9_marginOf_12 (by decide) (fun hb12 => ?_) (fun hb12 => absurd hb12 (by decide))
    · skip
      refine z_aload_n (pc := 17) dX9_marginOf_17 rfl rfl ?_
      refine z_getR (pc := 18) dX9_marginOf_18 f_RX9_12 (by assumption) rfl ?_
      refine z_getR (pc := 21) dX9_marginOf_21 f_RX9_83 (by assumption) rfl ?_
      refine z_getR (pc := 24) dX9_marginOf_24 f_RX9_115 (by assumption) rfl ?_
      refine z_iload_n (pc := 27) dX9_marginOf_27 rfl rfl ?_
      refine z_iload_n (pc := 28) dX9_marginOf_28 rfl rfl ?_
      refine z_callS (pc := 29) c_X9_place dX9_marginOf_29 l_RX9_98 m_MX9_place s_MX9_place rfl (by omega) rfl (Nat.le_of_ble_eq_true rfl) ?_
      rintro _ _ _ (⟨rfl, rfl, rfl⟩)
      try dsimp only [zov, Option.toList, List.cons_append, List.nil_append]
      refine z_ialoadv (pc := 32) dX9_marginOf_32 (by assumption) (by with_reducible rfl) (by omega) (by decide) (by first | assumption | exact v3 _ (by omega) | exact v4 _ (by omega) | exact v5 _ (by omega) | exact y0 _ (by omega) | exact y1 _ (by omega) | rfl) ?_
      refine z_iret (pc := 33) dX9_marginOf_33 rfl ?_
      first
        | exact zPC_same hV (by rw [fmarginOf, zLn_n hc])
        | exact zPC_same hV (by rw [fmarginOf, zLn_y b2 b4 ha hbb])
        | fail
  · skip
    try dsimp only [zov, Option.toList, List.cons_append, List.nil_append]
    first | refine z_if_neN (pc := 12) (tgt := 17) (by with_reducible rfl) dX9_marginOf_12 (by decide) (by omega) (fun hb12 => absurd hb12 (by decide)) (fun hb12 => ?_) | refine z_if_ne (pc := 12) (tgt := 17) dX9_marginOf_12 (by decide) (fun hb12 => absurd hb12 (by decide)) (fun hb12 => ?_)
    · skip
      refine z_iconst (pc := 15) (v := -1) dX9_marginOf_15 (by decide) ?_
      refine z_iret (pc := 16) dX9_marginOf_16 rfl ?_
      first
        | exact zPC_same hV (by rw [fmarginOf, zLn_n hc])
        | exact zPC_same hV (by rw [fmarginOf, zLn_y b2 b4 ha hbb])
        | fail
set_option maxHeartbeats 2000000 in
set_option maxRecDepth 20000 in
theorem c_X9_begin {lay : List zL} {I : zI} {J : zJ} {S : zS} (hC : kC lay) (hV : vC I J S) : zMet lay MX9_begin 3 [.ref 0] I J (fun r I' J' => zPC I J (fbegin S) r I' J') := by
  refine zMet_of (t := MX9_begin) (ls := [.ref 0, .null]) (by decide +kernel) (Nat.le_of_ble_eq_true rfl) rfl ?_
  obtain ⟨c0, ⟨cP, cG⟩, ⟨cX, cQ, cR⟩, ⟨cS, cB, cD⟩, cf1, cf2, cf3, cU⟩ := id hC
  have p0 : lay[1]? = some (.inl (2, [4, 8, 13, 16, 19])) := cP.1
  have s0 : kS lay 2 := cP.2.1
  obtain ⟨s1, s2, s3, s4⟩ := id s0
  have t0 : kT lay 6 := cP.2.2.1
  obtain ⟨t1, t2, t3, t4, t5⟩ := id t0
  have n5 : kN lay 11 5 := cP.2.2.2.1
  have n8 : kN lay 14 8 := cP.2.2.2.2.1
  have m8 : kN lay 17 8 := cP.2.2.2.2.2
  have w0 : vS I 2 S.n := hV.1.1.1
  have w1 : vT I J 6 S.n := hV.1.1.2.1
  have w5 : vN I 11 5 (S.n 4) (fun k => S.n (52 + k) / 100) (fun k => S.n (52 + k) % 100) := hV.1.1.2.2.1
  have w8 : vN I 14 8 (S.n 5) (fun k => S.n (57 + k) / 100) (fun k => S.n (57 + k) % 100) := hV.1.1.2.2.2.1
  have x8 : vN I 17 8 (S.n 6) (fun k => S.n (65 + k) / 100) (fun k => S.n (65 + k) % 100) := hV.1.1.2.2.2.2
  obtain ⟨v0, v1, v2, v3, v4, v5⟩ := id w0
  obtain ⟨y0, y1, y2⟩ := id w1
  have hb := hV.1.2
  have hB := hb.1
  have hT := hb.2.1
  obtain ⟨b1, b2, b3, b4, b5, b6, b7, b8⟩ := id hB
  have ox := cX.1
  have oq := cQ.1
  have ow := cR.1
  have od := cD.1
  have oe := cB.1
  have of1 := cS.1
  have of2 := cS.2.1
  have ou := cU.1
  have og := cG.1
  have on5 := n5.1
  have on8 := n8.1
  have om8 := m8.1
  have ov := cR.2.1.1
  have z1 := cf1
  have z2 := cf2
  have z3 := cf3
  unfold kF at z1 z2 z3
  refine z_aload_n (pc := 0) dX9_begin_0 rfl rfl ?_
  refine z_getR (pc := 1) dX9_begin_1 f_RX9_12 (by assumption) rfl ?_
  refine z_getR (pc := 4) dX9_begin_4 f_RX9_102 (by assumption) rfl ?_
  refine z_getIv (pc := 7) dX9_begin_7 f_RX9_171 (by assumption) rfl (by first | assumption | exact v3 _ (by omega) | exact v4 _ (by omega) | exact v5 _ (by omega) | exact y0 _ (by omega) | exact y1 _ (by omega) | rfl) ?_
  refine z_istore_n (pc := 10) dX9_begin_10 rfl (by decide) rfl ?_
  try dsimp only [zst1, zst2, zk]
  refine z_aload_n (pc := 11) dX9_begin_11 rfl rfl ?_
  refine z_getR (pc := 12) dX9_begin_12 f_RX9_12 (by assumption) rfl ?_
  refine z_getR (pc := 15) dX9_begin_15 f_RX9_102 (by assumption) rfl ?_
  refine z_aload_n (pc := 18) dX9_begin_18 rfl rfl ?_
  refine z_getR (pc := 19) dX9_begin_19 f_RX9_12 (by assumption) rfl ?_
  refine z_getR (pc := 22) dX9_begin_22 f_RX9_83 (by assumption) rfl ?_
  refine z_callV (pc := 25) (c_X7_takeCounts s0 w0 hB t0) dX9_begin_25 l_RX9_105 m_MX7_takeCounts n_MX7_takeCounts e_MX7_takeCounts rfl (by omega) (by assumption) rfl rfl (Nat.le_of_ble_eq_true rfl) ?_
  rintro _ _ _ (⟨rfl, rfl, ⟨hv, hj⟩⟩)
  try dsimp only [zov, Option.toList, List.cons_append, List.nil_append]
  refine z_iload_n (pc := 28) dX9_begin_28 rfl rfl ?_
  refine z_iret (pc := 29) dX9_begin_29 rfl ?_
  exact zPC_now hV (fun x q1 q2 => zup_o (by omega)) (fun x q1 q2 => hj x (by omega) (by omega)) (vP_tab (vC_n hV) hv (fun y q1 q2 q3 => zup_o (by omega)) (fun k q => ztk_o q)) (ztk_bN hb) rfl
