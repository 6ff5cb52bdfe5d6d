/-! ===== the class's calls: after, images, tapes ===== -/
theorem zhap_bS {n : Nat → Nat} {w v : Nat} (h : bS n) (hw : zevok n w v) : bS (zhap n w v) ∧ zhap n w v 0 = n 0 ∧ zhap n w v 1 = n 1 := by
  obtain ⟨b1, b2, b3, b4, b5, b6, b7, b8⟩ := h
  unfold zevok at hw
  have e : ∀ k, k < 7 → zhap n w v k = n k := by
    intro k hk
    unfold zhap
    split
    · rw [if_neg (by omega)]
    · split
      · rw [if_neg (by omega)]
      · rw [if_neg (by omega)]
  refine ⟨⟨?_, ?_, ?_, ?_, ?_, fun k hk => ?_, fun k hk => ?_, fun k hk => ?_⟩, e 0 (by omega), e 1 (by omega)⟩
  · rw [e _ (by omega)]; exact b1
  · rw [e _ (by omega)]; exact b2
  · rw [e _ (by omega)]; exact b3
  · rw [e _ (by omega)]; exact b4
  · rw [e _ (by omega)]; exact b5
  · have h9 := b6 k hk
    unfold zhap
    split
    · split <;> omega
    · split
      · rw [if_neg (by omega)]; exact h9
      · rw [if_neg (by omega)]; exact h9
  · have h9 := b7 k hk
    unfold zhap
    split
    · rw [if_neg (by omega)]; exact h9
    · split
      · rw [if_neg (by omega)]; exact h9
      · rw [if_neg (by omega)]; exact h9
  · have h9 := b8 k hk
    unfold zhap
    split
    · rw [if_neg (by omega)]; exact h9
    · split
      · split <;> omega
      · split
        · omega
        · exact h9
theorem fafter_0 {S : zS} : fafter S (nI 0) = (.long (if zall (zaf S.n (S.n 5) 0 S.n) 0 = zall (zaf S.n (S.n 5) 0 S.n) 1 ∧ zforb (zaf S.n (S.n 5) 0 S.n) = 0 then lN 1 else lN 0), S) := by
  unfold fafter
  dsimp only
  rw [if_pos rfl]
theorem fafter_0y {S : zS} (h : zall (zaf S.n (S.n 5) 0 S.n) 0 = zall (zaf S.n (S.n 5) 0 S.n) 1 ∧ zforb (zaf S.n (S.n 5) 0 S.n) = 0) : fafter S (nI 0) = (.long (lN 1), S) := by rw [fafter_0, if_pos h]
theorem fafter_0n {S : zS} (h : ¬ (zall (zaf S.n (S.n 5) 0 S.n) 0 = zall (zaf S.n (S.n 5) 0 S.n) 1 ∧ zforb (zaf S.n (S.n 5) 0 S.n) = 0)) : fafter S (nI 0) = (.long (lN 0), S) := by rw [fafter_0, if_neg h]
theorem fafter_1 {S : zS} : fafter S (nI 1) = (.long (lN (zforb (zaf S.n (S.n 5) 0 S.n))), S) := by
  unfold fafter
  dsimp only
  rw [if_neg (by decide), if_pos rfl]
theorem fafter_2 {S : zS} : fafter S (nI 2) = (.long (nI (zall (zaf S.n (S.n 5) 0 S.n) 0) - nI (zall (zaf S.n (S.n 5) 0 S.n) 1)).toInt64, S) := by
  unfold fafter
  dsimp only
  rw [if_neg (by decide), if_neg (by decide), if_pos rfl]
theorem fafter_3 {S : zS} {w : Int32} (h0 : ¬ w = nI 0) (h1 : ¬ w = nI 1) (h2 : ¬ w = nI 2) : fafter S w = (.long (-9223372036854775808), S) := by
  unfold fafter
  dsimp only
  rw [if_neg h0, if_neg h1, if_neg h2]
  rfl
set_option maxHeartbeats 2000000 in
set_option maxRecDepth 20000 in
theorem l_X9_after {lay : List zL} {Q : Value → zI → zJ → Prop} {S : zS} {d0 : Nat} {w : Int32} (hC : kC lay) : ∀ (m k : Nat) (n1 : Nat → Nat) (I : zI) (J : zJ), k + m = S.n 5 → vC I J S → vS I 39 n1 → bS n1 → n1 0 = S.n 0 → n1 1 = S.n 1 → (∀ I', zkp I I' → vS I' 39 (zaf S.n m k n1) → bS (zaf S.n m k n1) → Z lay MX9_after (d0 + 5) 67 [.ref 0, .int w, .int (nI (S.n 5))] [] I' J Q) → Z lay MX9_after (d0 + 5) 16 [.ref 0, .int w, .int (nI k)] [] I J Q := by
  intro m
  induction m with
  | zero =>
    intro k n1 I J hk hV hs hB1 e0 e1 hq
    obtain ⟨c0, ⟨cP, cG⟩, ⟨cX, cQ, cR⟩, ⟨cS, cB, cD⟩, cf1, cf2, cf3, cU⟩ := id hC
    have p0 : lay[1]? = some (.inl (2, [4, 8, 13, 16, 19])) := cP.1
    have s0 : kS lay 2 := cP.2.1
    obtain ⟨s1, s2, s3, s4⟩ := id s0
    have t0 : kT lay 6 := cP.2.2.1
    obtain ⟨t1, t2, t3, t4, t5⟩ := id t0
    have n5 : kN lay 11 5 := cP.2.2.2.1
    have n8 : kN lay 14 8 := cP.2.2.2.2.1
    have m8 : kN lay 17 8 := cP.2.2.2.2.2
    have w0 : vS I 2 S.n := hV.1.1.1
    have w1 : vT I J 6 S.n := hV.1.1.2.1
    have w5 : vN I 11 5 (S.n 4) (fun k => S.n (52 + k) / 100) (fun k => S.n (52 + k) % 100) := hV.1.1.2.2.1
    have w8 : vN I 14 8 (S.n 5) (fun k => S.n (57 + k) / 100) (fun k => S.n (57 + k) % 100) := hV.1.1.2.2.2.1
    have x8 : vN I 17 8 (S.n 6) (fun k => S.n (65 + k) / 100) (fun k => S.n (65 + k) % 100) := hV.1.1.2.2.2.2
    obtain ⟨v0, v1, v2, v3, v4, v5⟩ := id w0
    obtain ⟨y0, y1, y2⟩ := id w1
    have hbN := hV.1.2
    have hB := hbN.1
    have hT := hbN.2.1
    obtain ⟨b1, b2, b3, b4, b5, b6, b7, b8⟩ := id hB
    have ox := cX.1
    have oq := cQ.1
    have ow := cR.1
    have od := cD.1
    have oe := cB.1
    have of1 := cS.1
    have of2 := cS.2.1
    have ou := cU.1
    have og := cG.1
    have on5 := n5.1
    have on8 := n8.1
    have om8 := m8.1
    have ov := cR.2.1.1
    have z1 := cf1
    have z2 := cf2
    have z3 := cf3
    unfold kF at z1 z2 z3
    obtain ⟨a1, a2, a3, a4', a5'⟩ := id w8
    obtain rfl : k = S.n 5 := (by omega)
    refine z_iload_n (pc := 16) dX9_after_16 rfl rfl ?_
    refine z_aload_n (pc := 17) dX9_after_17 rfl rfl ?_
    refine z_getR (pc := 18) dX9_after_18 f_RX9_12 (by assumption) rfl ?_
    refine z_getR (pc := 21) dX9_after_21 f_RX9_314 (by assumption) rfl ?_
    refine z_getIv (pc := 24) dX9_after_24 f_RX9_304 (by assumption) rfl (by first | assumption | rfl) ?_
    first | refine z_icmp_geN (pc := 27) (tgt := 67) (by with_reducible rfl) (by with_reducible rfl) dX9_after_27 (by decide) (by omega) (by omega) (fun hb27 => ?_) (fun hb27 => absurd hb27 (by omega)) | refine z_icmp_ge (pc := 27) (tgt := 67) dX9_after_27 (by decide) (fun hb27 => ?_) (fun hb27 => absurd hb27 (by omega))
    · skip
      exact hq I (zkp_r _) hs hB1
  | succ m ih =>
    intro k n1 I J hk hV hs hB1 e0 e1 hq
    obtain ⟨c0, ⟨cP, cG⟩, ⟨cX, cQ, cR⟩, ⟨cS, cB, cD⟩, cf1, cf2, cf3, cU⟩ := id hC
    have p0 : lay[1]? = some (.inl (2, [4, 8, 13, 16, 19])) := cP.1
    have s0 : kS lay 2 := cP.2.1
    obtain ⟨s1, s2, s3, s4⟩ := id s0
    have t0 : kT lay 6 := cP.2.2.1
    obtain ⟨t1, t2, t3, t4, t5⟩ := id t0
    have n5 : kN lay 11 5 := cP.2.2.2.1
    have n8 : kN lay 14 8 := cP.2.2.2.2.1
    have m8 : kN lay 17 8 := cP.2.2.2.2.2
    have w0 : vS I 2 S.n := hV.1.1.1
    have w1 : vT I J 6 S.n := hV.1.1.2.1
    have w5 : vN I 11 5 (S.n 4) (fun k => S.n (52 + k) / 100) (fun k => S.n (52 + k) % 100) := hV.1.1.2.2.1
    have w8 : vN I 14 8 (S.n 5) (fun k => S.n (57 + k) / 100) (fun k => S.n (57 + k) % 100) := hV.1.1.2.2.2.1
    have x8 : vN I 17 8 (S.n 6) (fun k => S.n (65 + k) / 100) (fun k => S.n (65 + k) % 100) := hV.1.1.2.2.2.2
    obtain ⟨v0, v1, v2, v3, v4, v5⟩ := id w0
    obtain ⟨y0, y1, y2⟩ := id w1
    have hbN := hV.1.2
    have hB := hbN.1
    have hT := hbN.2.1
    obtain ⟨b1, b2, b3, b4, b5, b6, b7, b8⟩ := id hB
    have ox := cX.1
    have oq := cQ.1
    have ow := cR.1
    have od := cD.1
    have oe := cB.1
    have of1 := cS.1
    have of2 := cS.2.1
    have ou := cU.1
    have og := cG.1
    have on5 := n5.1
    have on8 := n8.1
    have om8 := m8.1
    have ov := cR.2.1.1
    have z1 := cf1
    have z2 := cf2
    have z3 := cf3
    unfold kF at z1 z2 z3
    obtain ⟨a1, a2, a3, a4', a5'⟩ := id w8
    have a4 : ∀ j, j < S.n 5 → I (14 + 1) j = nI (S.n (57 + j) / 100) := a4'
    have a5 : ∀ j, j < S.n 5 → I (14 + 2) j = nI (S.n (57 + j) % 100) := a5'
    have on1 := n8.2.1
    have on2 := n8.2.2
    have hev : zevok n1 (S.n (57 + k) / 100) (S.n (57 + k) % 100) := by
      have h := hbN.2.2.2.2.1 k (by omega)
      unfold zevok at h ⊢
      rw [e0, e1]
      exact h
    obtain ⟨g1, g2, g3⟩ := zhap_bS hB1 hev
    refine z_iload_n (pc := 16) dX9_after_16 rfl rfl ?_
    refine z_aload_n (pc := 17) dX9_after_17 rfl rfl ?_
    refine z_getR (pc := 18) dX9_after_18 f_RX9_12 (by assumption) rfl ?_
    refine z_getR (pc := 21) dX9_after_21 f_RX9_314 (by assumption) rfl ?_
    refine z_getIv (pc := 24) dX9_after_24 f_RX9_304 (by assumption) rfl (by first | assumption | exact a4 _ (by omega) | exact a5 _ (by omega) | rfl) ?_
    first | refine z_icmp_geN (pc := 27) (tgt := 67) (by with_reducible rfl) (by with_reducible rfl) dX9_after_27 (by decide) (by omega) (by omega) (fun hb27 => absurd hb27 (by omega)) (fun hb27 => ?_) | refine z_icmp_ge (pc := 27) (tgt := 67) dX9_after_27 (by decide) (fun hb27 => absurd hb27 (by omega)) (fun hb27 => ?_)
    · skip
      refine z_aload_n (pc := 30) dX9_after_30 rfl rfl ?_
      refine z_getR (pc := 31) dX9_after_31 f_RX9_45 (by assumption) rfl ?_
      refine z_aload_n (pc := 34) dX9_after_34 rfl rfl ?_
      refine z_getR (pc := 35) dX9_after_35 f_RX9_12 (by assumption) rfl ?_
      refine z_getR (pc := 38) dX9_after_38 f_RX9_314 (by assumption) rfl ?_
      refine z_getR (pc := 41) dX9_after_41 f_RX9_306 (by assumption) rfl ?_
      refine z_iload_n (pc := 44) dX9_after_44 rfl rfl ?_
      refine z_ialoadv (pc := 45) dX9_after_45 (by assumption) (by with_reducible rfl) (by omega) (by decide) (by first | assumption | exact a4 _ (by omega) | exact a5 _ (by omega) | rfl) ?_
      refine z_aload_n (pc := 46) dX9_after_46 rfl rfl ?_
      refine z_getR (pc := 47) dX9_after_47 f_RX9_12 (by assumption) rfl ?_
      refine z_getR (pc := 50) dX9_after_50 f_RX9_314 (by assumption) rfl ?_
      refine z_getR (pc := 53) dX9_after_53 f_RX9_309 (by assumption) rfl ?_
      refine z_iload_n (pc := 56) dX9_after_56 rfl rfl ?_
      refine z_ialoadv (pc := 57) dX9_after_57 (by assumption) (by with_reducible rfl) (by omega) (by decide) (by first | assumption | exact a4 _ (by omega) | exact a5 _ (by omega) | rfl) ?_
      refine z_callV (pc := 58) (c_X6_happen cS hs hB1 hev) dX9_after_58 l_RX9_317 m_MX6_happen n_MX6_happen e_MX6_happen rfl (by omega) (by assumption) rfl rfl (Nat.le_of_ble_eq_true rfl) ?_
      rintro _ _ _ (⟨rfl, ⟨hs2, hi⟩, rfl⟩)
      try dsimp only [zov, Option.toList, List.cons_append, List.nil_append]
      first | refine z_iincN (pc := 61) (c := 1) dX9_after_61 rfl (by with_reducible rfl) (by decide) (by decide) rfl ?_ | refine z_iinc (pc := 61) dX9_after_61 rfl rfl (by decide) rfl ?_
      try dsimp only [zst1, zst2, zk]
      refine z_goto (pc := 64) (tgt := 16) dX9_after_64 (by decide) ?_
      exact ih (k + 1) _ _ _ (by omega) (vC_keep hV (fun x hx => hi x (by omega)) (zkp_r _)) hs2 g1 (g2.trans e0) (g3.trans e1) (fun I9 h1 h2 h3 => hq I9 (zkp_t (fun x hx => hi x (by omega)) h1) h2 h3)
set_option maxHeartbeats 2000000 in
set_option maxRecDepth 20000 in
theorem c_X9_after {lay : List zL} {I : zI} {J : zJ} {S : zS} (hC : kC lay) (hV : vC I J S) {w : Int32} : zMet lay MX9_after 5 [.ref 0, .int w] I J (fun r I' J' => zPC I J (fafter S w) r I' J') := by
  refine zMet_of (t := MX9_after) (ls := [.ref 0, .int w, .null]) (by decide +kernel) (Nat.le_of_ble_eq_true rfl) rfl ?_
  obtain ⟨c0, ⟨cP, cG⟩, ⟨cX, cQ, cR⟩, ⟨cS, cB, cD⟩, cf1, cf2, cf3, cU⟩ := id hC
  have p0 : lay[1]? = some (.inl (2, [4, 8, 13, 16, 19])) := cP.1
  have s0 : kS lay 2 := cP.2.1
  obtain ⟨s1, s2, s3, s4⟩ := id s0
  have t0 : kT lay 6 := cP.2.2.1
  obtain ⟨t1, t2, t3, t4, t5⟩ := id t0
  have n5 : kN lay 11 5 := cP.2.2.2.1
  have n8 : kN lay 14 8 := cP.2.2.2.2.1
  have m8 : kN lay 17 8 := cP.2.2.2.2.2
  have w0 : vS I 2 S.n := hV.1.1.1
  have w1 : vT I J 6 S.n := hV.1.1.2.1
  have w5 : vN I 11 5 (S.n 4) (fun k => S.n (52 + k) / 100) (fun k => S.n (52 + k) % 100) := hV.1.1.2.2.1
  have w8 : vN I 14 8 (S.n 5) (fun k => S.n (57 + k) / 100) (fun k => S.n (57 + k) % 100) := hV.1.1.2.2.2.1
  have x8 : vN I 17 8 (S.n 6) (fun k => S.n (65 + k) / 100) (fun k => S.n (65 + k) % 100) := hV.1.1.2.2.2.2
  obtain ⟨v0, v1, v2, v3, v4, v5⟩ := id w0
  obtain ⟨y0, y1, y2⟩ := id w1
  have hbN := hV.1.2
  have hB := hbN.1
  have hT := hbN.2.1
  obtain ⟨b1, b2, b3, b4, b5, b6, b7, b8⟩ := id hB
  have ox := cX.1
  have oq := cQ.1
  have ow := cR.1
  have od := cD.1
  have oe := cB.1
  have of1 := cS.1
  have of2 := cS.2.1
  have ou := cU.1
  have og := cG.1
  have on5 := n5.1
  have on8 := n8.1
  have om8 := m8.1
  have ov := cR.2.1.1
  have z1 := cf1
  have z2 := cf2
  have z3 := cf3
  unfold kF at z1 z2 z3
  refine z_aload_n (pc := 0) dX9_after_0 rfl rfl ?_
  refine z_getR (pc := 1) dX9_after_1 f_RX9_45 (by assumption) rfl ?_
  refine z_aload_n (pc := 4) dX9_after_4 rfl rfl ?_
  refine z_getR (pc := 5) dX9_after_5 f_RX9_12 (by assumption) rfl ?_
  refine z_getR (pc := 8) dX9_after_8 f_RX9_83 (by assumption) rfl ?_
  refine z_callV (pc := 11) (c_X6_copyFrom cS s0 w0 (by omega) b5) dX9_after_11 l_RX9_302 m_MX6_copyFrom n_MX6_copyFrom e_MX6_copyFrom rfl (by omega) (by assumption) rfl rfl (Nat.le_of_ble_eq_true rfl) ?_
  rintro _ _ _ (⟨rfl, ⟨hs, hi⟩, rfl⟩)
  try dsimp only [zov, Option.toList, List.cons_append, List.nil_append]
  refine z_iconst (pc := 14) (v := nI 0) dX9_after_14 (by decide) ?_
  refine z_istore_n (pc := 15) dX9_after_15 rfl (by decide) rfl ?_
  try dsimp only [zst1, zst2, zk]
  refine l_X9_after hC (S.n 5) 0 S.n _ J (by omega) (vC_keep hV (fun x hx => hi x (by omega)) (zkp_r _)) hs hB rfl rfl (fun I9 h1 h2 h3 => ?_)
  have hk9 : zkp I I9 := zkp_t (fun x hx => hi x (by omega)) h1
  have hfl := zforb_lt h3
  refine z_iload_n (pc := 67) dX9_after_67 rfl rfl ?_
  by_cases hsw0 : w = nI 0
  · subst hsw0
    refine z_tableIn (pc := 68) (off := 28) (tgt := 96) dX9_after_68 (by decide) (by decide) (by decide) (by decide) ?_
    refine z_aload_n (pc := 96) dX9_after_96 rfl rfl ?_
    refine z_getR (pc := 97) dX9_after_97 f_RX9_45 (by assumption) rfl ?_
    refine z_callV (pc := 100) (c_X6_isPossible cS h2 h3) dX9_after_100 l_RX9_240 m_MX6_isPossible n_MX6_isPossible e_MX6_isPossible rfl (by omega) (by assumption) rfl rfl (Nat.le_of_ble_eq_true rfl) ?_
    rintro _ _ _ ⟨⟨rfl, hp⟩ | ⟨rfl, hp⟩, rfl, rfl⟩
    · skip
      try dsimp only [zov, Option.toList, List.cons_append, List.nil_append]
      refine z_callS (pc := 103) (c_X9_oneIf (by omega)) dX9_after_103 l_RX9_122 m_MX9_oneIf s_MX9_oneIf rfl (by omega) rfl (Nat.le_of_ble_eq_true rfl) ?_
      rintro _ _ _ (⟨rfl, rfl, rfl⟩)
      try dsimp only [zov, Option.toList, List.cons_append, List.nil_append]
      first | refine z_i2lN (pc := 106) (by with_reducible rfl) dX9_after_106 (by omega) ?_ | refine z_i2l (pc := 106) dX9_after_106 rfl ?_
      refine z_lret (pc := 107) dX9_after_107 rfl ?_
      first
      | exact zPC_keep hV hk9 (zkp_r _) (fafter_0y hp)
      | exact zPC_keep hV hk9 (zkp_r _) (fafter_0n hp)
      | exact zPC_keep hV hk9 (zkp_r _) fafter_1
      | exact zPC_keep hV hk9 (zkp_r _) fafter_2
      | exact zPC_keep hV hk9 (zkp_r _) (fafter_3 hsw0 hsw1 hsw2)
      | fail
    · skip
      try dsimp only [zov, Option.toList, List.cons_append, List.nil_append]
      refine z_callS (pc := 103) (c_X9_oneIf (by omega)) dX9_after_103 l_RX9_122 m_MX9_oneIf s_MX9_oneIf rfl (by omega) rfl (Nat.le_of_ble_eq_true rfl) ?_
      rintro _ _ _ (⟨rfl, rfl, rfl⟩)
      try dsimp only [zov, Option.toList, List.cons_append, List.nil_append]
      first | refine z_i2lN (pc := 106) (by with_reducible rfl) dX9_after_106 (by omega) ?_ | refine z_i2l (pc := 106) dX9_after_106 rfl ?_
      refine z_lret (pc := 107) dX9_after_107 rfl ?_
      first
      | exact zPC_keep hV hk9 (zkp_r _) (fafter_0y hp)
      | exact zPC_keep hV hk9 (zkp_r _) (fafter_0n hp)
      | exact zPC_keep hV hk9 (zkp_r _) fafter_1
      | exact zPC_keep hV hk9 (zkp_r _) fafter_2
      | exact zPC_keep hV hk9 (zkp_r _) (fafter_3 hsw0 hsw1 hsw2)
      | fail
  by_cases hsw1 : w = nI 1
  · subst hsw1
    refine z_tableIn (pc := 68) (off := 40) (tgt := 108) dX9_after_68 (by decide) (by decide) (by decide) (by decide) ?_
    refine z_aload_n (pc := 108) dX9_after_108 rfl rfl ?_
    refine z_getR (pc := 109) dX9_after_109 f_RX9_45 (by assumption) rfl ?_
    refine z_callV (pc := 112) (c_X6_forbids cS h2 h3) dX9_after_112 l_RX9_244 m_MX6_forbids n_MX6_forbids e_MX6_forbids rfl (by omega) (by assumption) rfl rfl (Nat.le_of_ble_eq_true rfl) ?_
    rintro _ _ _ (⟨rfl, rfl, rfl⟩)
    try dsimp only [zov, Option.toList, List.cons_append, List.nil_append]
    first | refine z_i2lN (pc := 115) (by with_reducible rfl) dX9_after_115 (by omega) ?_ | refine z_i2l (pc := 115) dX9_after_115 rfl ?_
    refine z_lret (pc := 116) dX9_after_116 rfl ?_
    first
    | exact zPC_keep hV hk9 (zkp_r _) (fafter_0y hp)
    | exact zPC_keep hV hk9 (zkp_r _) (fafter_0n hp)
    | exact zPC_keep hV hk9 (zkp_r _) fafter_1
    | exact zPC_keep hV hk9 (zkp_r _) fafter_2
    | exact zPC_keep hV hk9 (zkp_r _) (fafter_3 hsw0 hsw1 hsw2)
    | fail
  by_cases hsw2 : w = nI 2
  · subst hsw2
    refine z_tableIn (pc := 68) (off := 49) (tgt := 117) dX9_after_68 (by decide) (by decide) (by decide) (by decide) ?_
    refine z_aload_n (pc := 117) dX9_after_117 rfl rfl ?_
    refine z_getR (pc := 118) dX9_after_118 f_RX9_45 (by assumption) rfl ?_
    refine z_iconst (pc := 121) (v := nI 0) dX9_after_121 (by decide) ?_
    refine z_callV (pc := 122) (c_X6_allMargins cS h2 h3 (by omega)) dX9_after_122 l_RX9_320 m_MX6_allMargins n_MX6_allMargins e_MX6_allMargins rfl (by omega) (by assumption) rfl rfl (Nat.le_of_ble_eq_true rfl) ?_
    rintro _ _ _ (⟨rfl, rfl, rfl⟩)
    try dsimp only [zov, Option.toList, List.cons_append, List.nil_append]
    refine z_aload_n (pc := 125) dX9_after_125 rfl rfl ?_
    refine z_getR (pc := 126) dX9_after_126 f_RX9_45 (by assumption) rfl ?_
    refine z_iconst (pc := 129) (v := nI 1) dX9_after_129 (by decide) ?_
    refine z_callV (pc := 130) (c_X6_allMargins cS h2 h3 (by omega)) dX9_after_130 l_RX9_320 m_MX6_allMargins n_MX6_allMargins e_MX6_allMargins rfl (by omega) (by assumption) rfl rfl (Nat.le_of_ble_eq_true rfl) ?_
    rintro _ _ _ (⟨rfl, rfl, rfl⟩)
    try dsimp only [zov, Option.toList, List.cons_append, List.nil_append]
    first | refine z_isubN (pc := 133) (by with_reducible rfl) (by with_reducible rfl) dX9_after_133 (by omega) ?_ | refine z_isub (pc := 133) dX9_after_133 ?_
    first | refine z_i2lN (pc := 134) (by with_reducible rfl) dX9_after_134 (by omega) ?_ | refine z_i2l (pc := 134) dX9_after_134 rfl ?_
    refine z_lret (pc := 135) dX9_after_135 rfl ?_
    first
    | exact zPC_keep hV hk9 (zkp_r _) (fafter_0y hp)
    | exact zPC_keep hV hk9 (zkp_r _) (fafter_0n hp)
    | exact zPC_keep hV hk9 (zkp_r _) fafter_1
    | exact zPC_keep hV hk9 (zkp_r _) fafter_2
    | exact zPC_keep hV hk9 (zkp_r _) (fafter_3 hsw0 hsw1 hsw2)
    | fail
  · skip
    refine z_tableOut (pc := 68) (tgt := 136) dX9_after_68 (by have e0 : w.toInt ≠ 0 := fun h => hsw0 (Int32.toInt_inj.mp (h.trans (by decide))); have e1 : w.toInt ≠ 1 := fun h => hsw1 (Int32.toInt_inj.mp (h.trans (by decide))); have e2 : w.toInt ≠ 2 := fun h => hsw2 (Int32.toInt_inj.mp (h.trans (by decide))); omega) (by decide) ?_
    refine z_ldc2 (pc := 136) (v := -9223372036854775808) dX9_after_136 q_RX9_190 ?_
    refine z_lret (pc := 139) dX9_after_139 rfl ?_
    first
    | exact zPC_keep hV hk9 (zkp_r _) (fafter_0y hp)
    | exact zPC_keep hV hk9 (zkp_r _) (fafter_0n hp)
    | exact zPC_keep hV hk9 (zkp_r _) fafter_1
    | exact zPC_keep hV hk9 (zkp_r _) fafter_2
    | exact zPC_keep hV hk9 (zkp_r _) (fafter_3 hsw0 hsw1 hsw2)
    | fail
theorem l_image {I I1 : zI} {J J1 : zJ} {S : zS} (hV : vC I J S) (hv : vP I1 J1 20 S.n) (hi : ∀ x, (x < 20 ∨ 20 + 18 < x) → I1 x = I x) (hj : ∀ x, (x < 20 ∨ 20 + 18 < x) → J1 x = J x) : zPC I J (fimage S) (.int (nI (S.n 0 * S.n 1))) (zup I1 0 2 (nI 1)) J1 := by
  obtain ⟨⟨q1, q2⟩, q3, ⟨q4, q5, q6⟩, q7, q8⟩ := id hV
  have hi0 : ∀ x, x ≠ 0 → (x < 20 ∨ 38 < x) → zup I1 0 2 (nI 1) x = I x := fun x h1 h2 => (zup_o h1).trans (hi x (by omega))
  refine ⟨rfl, ⟨⟨vP_to q1 (fun x h1 h2 => hi0 x (by omega) (by omega)) (fun x h1 h2 => hj x (by omega)), q2⟩, mP_to (vP_mP hv) (fun x h1 h2 => zup_o (by omega)), ⟨zup_s _ _ _ _, Nat.le_refl _, fun _ => ⟨vP_to hv (fun x h1 h2 => zup_o (by omega)) (fun _ _ _ => rfl), q2⟩⟩, vX_to q7 (hi0 _ (by omega) (by omega)) (hi0 _ (by omega) (by omega)), vQ_to q8 (hi0 _ (by omega) (by omega)) (hi0 _ (by omega) (by omega)) (fun t ht => hj _ (by omega))⟩, fun x hx => hi0 x (by omega) (by omega), fun x hx => hj x (by omega)⟩
set_option maxHeartbeats 2000000 in
set_option maxRecDepth 20000 in
theorem c_X9_image {lay : List zL} {I : zI} {J : zJ} {S : zS} (hC : kC lay) (hV : vC I J S) : zMet lay MX9_image 3 [.ref 0] I J (fun r I' J' => zPC I J (fimage S) r I' J') := by
  refine zMet_of (t := MX9_image) (ls := [.ref 0]) (by decide +kernel) (Nat.le_of_ble_eq_true rfl) rfl ?_
  obtain ⟨c0, ⟨cP, cG⟩, ⟨cX, cQ, cR⟩, ⟨cS, cB, cD⟩, cf1, cf2, cf3, cU⟩ := id hC
  have p0 : lay[1]? = some (.inl (2, [4, 8, 13, 16, 19])) := cP.1
  have s0 : kS lay 2 := cP.2.1
  obtain ⟨s1, s2, s3, s4⟩ := id s0
  have t0 : kT lay 6 := cP.2.2.1
  obtain ⟨t1, t2, t3, t4, t5⟩ := id t0
  have n5 : kN lay 11 5 := cP.2.2.2.1
  have n8 : kN lay 14 8 := cP.2.2.2.2.1
  have m8 : kN lay 17 8 := cP.2.2.2.2.2
  have w0 : vS I 2 S.n := hV.1.1.1
  have w1 : vT I J 6 S.n := hV.1.1.2.1
  have w5 : vN I 11 5 (S.n 4) (fun k => S.n (52 + k) / 100) (fun k => S.n (52 + k) % 100) := hV.1.1.2.2.1
  have w8 : vN I 14 8 (S.n 5) (fun k => S.n (57 + k) / 100) (fun k => S.n (57 + k) % 100) := hV.1.1.2.2.2.1
  have x8 : vN I 17 8 (S.n 6) (fun k => S.n (65 + k) / 100) (fun k => S.n (65 + k) % 100) := hV.1.1.2.2.2.2
  obtain ⟨v0, v1, v2, v3, v4, v5⟩ := id w0
  obtain ⟨y0, y1, y2⟩ := id w1
  have hbN := hV.1.2
  have hB := hbN.1
  have hT := hbN.2.1
  obtain ⟨b1, b2, b3, b4, b5, b6, b7, b8⟩ := id hB
  have ox := cX.1
  have oq := cQ.1
  have ow := cR.1
  have od := cD.1
  have oe := cB.1
  have of1 := cS.1
  have of2 := cS.2.1
  have ou := cU.1
  have og := cG.1
  have on5 := n5.1
  have on8 := n8.1
  have om8 := m8.1
  have ov := cR.2.1.1
  have z1 := cf1
  have z2 := cf2
  have z3 := cf3
  unfold kF at z1 z2 z3
  have g2 := hV.2.1
  refine z_aload_n (pc := 0) dX9_image_0 rfl rfl ?_
  refine z_getR (pc := 1) dX9_image_1 f_RX9_18 (by assumption) rfl ?_
  refine z_aload_n (pc := 4) dX9_image_4 rfl rfl ?_
  refine z_getR (pc := 5) dX9_image_5 f_RX9_12 (by assumption) rfl ?_
  refine z_callV (pc := 8) (c_X2_copyFrom cG cP g2 hV.1.1 (by omega) b5) dX9_image_8 l_RX9_343 m_MX2_copyFrom n_MX2_copyFrom e_MX2_copyFrom rfl (by omega) (by assumption) rfl rfl (Nat.le_of_ble_eq_true rfl) ?_
  rintro _ _ _ (⟨rfl, ⟨hv, hi, hj⟩⟩)
  try dsimp only [zov, Option.toList, List.cons_append, List.nil_append]
  refine z_aload_n (pc := 11) dX9_image_11 rfl rfl ?_
  refine z_iconst (pc := 12) (v := nI 1) dX9_image_12 (by decide) ?_
  refine z_putZ (pc := 13) dX9_image_13 f_RX9_346 (by assumption) rfl (by first | assumption | decide | exact zb01 (by assumption)) ?_
  refine z_aload_n (pc := 16) dX9_image_16 rfl rfl ?_
  refine z_getR (pc := 17) dX9_image_17 f_RX9_12 (by assumption) rfl ?_
  refine z_getR (pc := 20) dX9_image_20 f_RX9_83 (by assumption) rfl ?_
  refine z_callV (pc := 23) (c_X6_cells s0 (vS_to w0 ((zup_o (by omega)).trans (hi _ (by omega))) ((zup_o (by omega)).trans (hi _ (by omega))) ((zup_o (by omega)).trans (hi _ (by omega))) ((zup_o (by omega)).trans (hi _ (by omega)))) hB) dX9_image_23 l_RX9_86 m_MX6_cells n_MX6_cells e_MX6_cells rfl (by omega) (by assumption) rfl rfl (Nat.le_of_ble_eq_true rfl) ?_
  rintro _ _ _ (⟨rfl, rfl, rfl⟩)
  try dsimp only [zov, Option.toList, List.cons_append, List.nil_append]
  refine z_iret (pc := 26) dX9_image_26 rfl ?_
  exact l_image hV hv hi hj
set_option maxHeartbeats 2000000 in
set_option maxRecDepth 20000 in
theorem c_X9_undo {lay : List zL} {I : zI} {J : zJ} {S : zS} (hC : kC lay) (hV : vC I J S) : zMet lay MX9_undo 3 [.ref 0] I J (fun r I' J' => zPC I J (fundo S) r I' J') := by
  refine zMet_of (t := MX9_undo) (ls := [.ref 0]) (by decide +kernel) (Nat.le_of_ble_eq_true rfl) rfl ?_
  obtain ⟨c0, ⟨cP, cG⟩, ⟨cX, cQ, cR⟩, ⟨cS, cB, cD⟩, cf1, cf2, cf3, cU⟩ := id hC
  have p0 : lay[1]? = some (.inl (2, [4, 8, 13, 16, 19])) := cP.1
  have s0 : kS lay 2 := cP.2.1
  obtain ⟨s1, s2, s3, s4⟩ := id s0
  have t0 : kT lay 6 := cP.2.2.1
  obtain ⟨t1, t2, t3, t4, t5⟩ := id t0
  have n5 : kN lay 11 5 := cP.2.2.2.1
  have n8 : kN lay 14 8 := cP.2.2.2.2.1
  have m8 : kN lay 17 8 := cP.2.2.2.2.2
  have w0 : vS I 2 S.n := hV.1.1.1
  have w1 : vT I J 6 S.n := hV.1.1.2.1
  have w5 : vN I 11 5 (S.n 4) (fun k => S.n (52 + k) / 100) (fun k => S.n (52 + k) % 100) := hV.1.1.2.2.1
  have w8 : vN I 14 8 (S.n 5) (fun k => S.n (57 + k) / 100) (fun k => S.n (57 + k) % 100) := hV.1.1.2.2.2.1
  have x8 : vN I 17 8 (S.n 6) (fun k => S.n (65 + k) / 100) (fun k => S.n (65 + k) % 100) := hV.1.1.2.2.2.2
  obtain ⟨v0, v1, v2, v3, v4, v5⟩ := id w0
  obtain ⟨y0, y1, y2⟩ := id w1
  have hbN := hV.1.2
  have hB := hbN.1
  have hT := hbN.2.1
  obtain ⟨b1, b2, b3, b4, b5, b6, b7, b8⟩ := id hB
  have ox := cX.1
  have oq := cQ.1
  have ow := cR.1
  have od := cD.1
  have oe := cB.1
  have of1 := cS.1
  have of2 := cS.2.1
  have ou := cU.1
  have og := cG.1
  have on5 := n5.1
  have on8 := n8.1
  have om8 := m8.1
  have ov := cR.2.1.1
  have z1 := cf1
  have z2 := cf2
  have z3 := cf3
  unfold kF at z1 z2 z3
  obtain ⟨q4, q5, q6⟩ := id hV.2.2.1
  refine z_aload_n (pc := 0) dX9_undo_0 rfl rfl ?_
  refine z_getIv (pc := 1) dX9_undo_1 f_RX9_346 (by assumption) rfl (by first | assumption | rfl) ?_
  first | refine z_if_neN (pc := 4) (tgt := 10) (by with_reducible rfl) dX9_undo_4 (by decide) (by omega) (fun hb4 => ?_) (fun hb4 => ?_) | refine z_if_ne (pc := 4) (tgt := 10) dX9_undo_4 (by decide) (fun hb4 => ?_) (fun hb4 => ?_)
  · skip
    refine z_aload_n (pc := 10) dX9_undo_10 rfl rfl ?_
    refine z_getR (pc := 11) dX9_undo_11 f_RX9_12 (by assumption) rfl ?_
    refine z_aload_n (pc := 14) dX9_undo_14 rfl rfl ?_
    refine z_getR (pc := 15) dX9_undo_15 f_RX9_18 (by assumption) rfl ?_
    refine z_callV (pc := 18) (c_X2_copyFrom cP cG (vP_mP hV.1.1) (q6 (by omega)).1 (by omega) (q6 (by omega)).2.1.2.2.2.2.1) dX9_undo_18 l_RX9_343 m_MX2_copyFrom n_MX2_copyFrom e_MX2_copyFrom rfl (by omega) (by assumption) rfl rfl (Nat.le_of_ble_eq_true rfl) ?_
    rintro _ _ _ (⟨rfl, ⟨hv, hi, hj⟩⟩)
    try dsimp only [zov, Option.toList, List.cons_append, List.nil_append]
    refine z_aload_n (pc := 21) dX9_undo_21 rfl rfl ?_
    refine z_getR (pc := 22) dX9_undo_22 f_RX9_12 (by assumption) rfl ?_
    refine z_getR (pc := 25) dX9_undo_25 f_RX9_83 (by assumption) rfl ?_
    refine z_callV (pc := 28) (c_X6_cells s0 hv.1 (q6 (by omega)).2.1) dX9_undo_28 l_RX9_86 m_MX6_cells n_MX6_cells e_MX6_cells rfl (by omega) (by assumption) rfl rfl (Nat.le_of_ble_eq_true rfl) ?_
    rintro _ _ _ (⟨rfl, rfl, rfl⟩)
    try dsimp only [zov, Option.toList, List.cons_append, List.nil_append]
    refine z_iret (pc := 31) dX9_undo_31 rfl ?_
    first
      | exact zPC_now hV (fun x q1 q2 => hi x (by omega)) (fun x q1 q2 => hj x (by omega)) hv (q6 (by omega)).2 (if_neg (by omega))
      | exact zPC_same hV (if_pos (by omega))
      | fail
  · skip
    refine z_bipush (pc := 7) (v := -3) dX9_undo_7 (by decide) ?_
    refine z_iret (pc := 9) dX9_undo_9 rfl ?_
    first
      | exact zPC_now hV (fun x q1 q2 => hi x (by omega)) (fun x q1 q2 => hj x (by omega)) hv (q6 (by omega)).2 (if_neg (by omega))
      | exact zPC_same hV (if_pos (by omega))
      | fail
theorem fcount_0 {S : zS} : fcount S (nI 0) = (.int (nI (S.n 4)), S) := by unfold fcount; rw [if_pos rfl]
theorem fcount_1 {S : zS} : fcount S (nI 1) = (.int (nI (S.n 5)), S) := by unfold fcount; rw [if_neg (by decide), if_pos rfl]
theorem fcount_2 {S : zS} : fcount S (nI 2) = (.int (nI (S.n 6)), S) := by unfold fcount; rw [if_neg (by decide), if_neg (by decide), if_pos rfl]
theorem fcount_3 {S : zS} : fcount S (nI 3) = (.int (nI S.len), S) := by unfold fcount; rw [if_neg (by decide), if_neg (by decide), if_neg (by decide), if_pos rfl]
theorem fcount_4 {S : zS} {w : Int32} (h0 : ¬ w = nI 0) (h1 : ¬ w = nI 1) (h2 : ¬ w = nI 2) (h3 : ¬ w = nI 3) : fcount S w = (.int (-2), S) := by unfold fcount; rw [if_neg h0, if_neg h1, if_neg h2, if_neg h3]
set_option maxHeartbeats 2000000 in
set_option maxRecDepth 20000 in
theorem c_X9_count {lay : List zL} {I : zI} {J : zJ} {S : zS} (hC : kC lay) (hV : vC I J S) {w : Int32} : zMet lay MX9_count 3 [.ref 0, .int w] I J (fun r I' J' => zPC I J (fcount S w) r I' J') := by
  refine zMet_of (t := MX9_count) (ls := [.ref 0, .int w]) (by decide +kernel) (Nat.le_of_ble_eq_true rfl) rfl ?_
  obtain ⟨c0, ⟨cP, cG⟩, ⟨cX, cQ, cR⟩, ⟨cS, cB, cD⟩, cf1, cf2, cf3, cU⟩ := id hC
  have p0 : lay[1]? = some (.inl (2, [4, 8, 13, 16, 19])) := cP.1
  have s0 : kS lay 2 := cP.2.1
  obtain ⟨s1, s2, s3, s4⟩ := id s0
  have t0 : kT lay 6 := cP.2.2.1
  obtain ⟨t1, t2, t3, t4, t5⟩ := id t0
  have n5 : kN lay 11 5 := cP.2.2.2.1
  have n8 : kN lay 14 8 := cP.2.2.2.2.1
  have m8 : kN lay 17 8 := cP.2.2.2.2.2
  have w0 : vS I 2 S.n := hV.1.1.1
  have w1 : vT I J 6 S.n := hV.1.1.2.1
  have w5 : vN I 11 5 (S.n 4) (fun k => S.n (52 + k) / 100) (fun k => S.n (52 + k) % 100) := hV.1.1.2.2.1
  have w8 : vN I 14 8 (S.n 5) (fun k => S.n (57 + k) / 100) (fun k => S.n (57 + k) % 100) := hV.1.1.2.2.2.1
  have x8 : vN I 17 8 (S.n 6) (fun k => S.n (65 + k) / 100) (fun k => S.n (65 + k) % 100) := hV.1.1.2.2.2.2
  obtain ⟨v0, v1, v2, v3, v4, v5⟩ := id w0
  obtain ⟨y0, y1, y2⟩ := id w1
  have hbN := hV.1.2
  have hB := hbN.1
  have hT := hbN.2.1
  obtain ⟨b1, b2, b3, b4, b5, b6, b7, b8⟩ := id hB
  have ox := cX.1
  have oq := cQ.1
  have ow := cR.1
  have od := cD.1
  have oe := cB.1
  have of1 := cS.1
  have of2 := cS.2.1
  have ou := cU.1
  have og := cG.1
  have on5 := n5.1
  have on8 := n8.1
  have om8 := m8.1
  have ov := cR.2.1.1
  have z1 := cf1
  have z2 := cf2
  have z3 := cf3
  unfold kF at z1 z2 z3
  refine z_iload_n (pc := 0) dX9_count_0 rfl rfl ?_
  by_cases hsw0 : w = nI 0
  · subst hsw0
    refine z_tableIn (pc := 1) (off := 31) (tgt := 32) dX9_count_1 (by decide) (by decide) (by decide) (by decide) ?_
    refine z_aload_n (pc := 32) dX9_count_32 rfl rfl ?_
    refine z_getR (pc := 33) dX9_count_33 f_RX9_12 (by assumption) rfl ?_
    refine z_getR (pc := 36) dX9_count_36 f_RX9_280 (by assumption) rfl ?_
    refine z_getIv (pc := 39) dX9_count_39 f_RX9_304 (by assumption) rfl (by first | assumption | exact w5.2.1 | exact w8.2.1 | exact x8.2.1 | exact hV.2.2.2.1.1 | rfl) ?_
    refine z_iret (pc := 42) dX9_count_42 rfl ?_
    first
      | exact zPC_same hV fcount_0
      | exact zPC_same hV fcount_1
      | exact zPC_same hV fcount_2
      | exact zPC_same hV fcount_3
      | exact zPC_same hV (fcount_4 hsw0 hsw1 hsw2 hsw3)
      | fail
  by_cases hsw1 : w = nI 1
  · subst hsw1
    refine z_tableIn (pc := 1) (off := 42) (tgt := 43) dX9_count_1 (by decide) (by decide) (by decide) (by decide) ?_
    refine z_aload_n (pc := 43) dX9_count_43 rfl rfl ?_
    refine z_getR (pc := 44) dX9_count_44 f_RX9_12 (by assumption) rfl ?_
    refine z_getR (pc := 47) dX9_count_47 f_RX9_314 (by assumption) rfl ?_
    refine z_getIv (pc := 50) dX9_count_50 f_RX9_304 (by assumption) rfl (by first | assumption | exact w5.2.1 | exact w8.2.1 | exact x8.2.1 | exact hV.2.2.2.1.1 | rfl) ?_
    refine z_iret (pc := 53) dX9_count_53 rfl ?_
    first
      | exact zPC_same hV fcount_0
      | exact zPC_same hV fcount_1
      | exact zPC_same hV fcount_2
      | exact zPC_same hV fcount_3
      | exact zPC_same hV (fcount_4 hsw0 hsw1 hsw2 hsw3)
      | fail
  by_cases hsw2 : w = nI 2
  · subst hsw2
    refine z_tableIn (pc := 1) (off := 53) (tgt := 54) dX9_count_1 (by decide) (by decide) (by decide) (by decide) ?_
    refine z_aload_n (pc := 54) dX9_count_54 rfl rfl ?_
    refine z_getR (pc := 55) dX9_count_55 f_RX9_12 (by assumption) rfl ?_
    refine z_getR (pc := 58) dX9_count_58 f_RX9_323 (by assumption) rfl ?_
    refine z_getIv (pc := 61) dX9_count_61 f_RX9_304 (by assumption) rfl (by first | assumption | exact w5.2.1 | exact w8.2.1 | exact x8.2.1 | exact hV.2.2.2.1.1 | rfl) ?_
    refine z_iret (pc := 64) dX9_count_64 rfl ?_
    first
      | exact zPC_same hV fcount_0
      | exact zPC_same hV fcount_1
      | exact zPC_same hV fcount_2
      | exact zPC_same hV fcount_3
      | exact zPC_same hV (fcount_4 hsw0 hsw1 hsw2 hsw3)
      | fail
  by_cases hsw3 : w = nI 3
  · subst hsw3
    refine z_tableIn (pc := 1) (off := 64) (tgt := 65) dX9_count_1 (by decide) (by decide) (by decide) (by decide) ?_
    refine z_aload_n (pc := 65) dX9_count_65 rfl rfl ?_
    refine z_getR (pc := 66) dX9_count_66 f_RX9_24 (by assumption) rfl ?_
    refine z_getIv (pc := 69) dX9_count_69 f_RX9_136 (by assumption) rfl (by first | assumption | exact w5.2.1 | exact w8.2.1 | exact x8.2.1 | exact hV.2.2.2.1.1 | rfl) ?_
    refine z_iret (pc := 72) dX9_count_72 rfl ?_
    first
      | exact zPC_same hV fcount_0
      | exact zPC_same hV fcount_1
      | exact zPC_same hV fcount_2
      | exact zPC_same hV fcount_3
      | exact zPC_same hV (fcount_4 hsw0 hsw1 hsw2 hsw3)
      | fail
  · skip
    refine z_tableOut (pc := 1) (tgt := 73) dX9_count_1 (by have e0 : w.toInt ≠ 0 := fun h => hsw0 (Int32.toInt_inj.mp (h.trans (by decide))); have e1 : w.toInt ≠ 1 := fun h => hsw1 (Int32.toInt_inj.mp (h.trans (by decide))); have e2 : w.toInt ≠ 2 := fun h => hsw2 (Int32.toInt_inj.mp (h.trans (by decide))); have e3 : w.toInt ≠ 3 := fun h => hsw3 (Int32.toInt_inj.mp (h.trans (by decide))); omega) (by decide) ?_
    refine z_bipush (pc := 73) (v := -2) dX9_count_73 (by decide) ?_
    refine z_iret (pc := 75) dX9_count_75 rfl ?_
    first
      | exact zPC_same hV fcount_0
      | exact zPC_same hV fcount_1
      | exact zPC_same hV fcount_2
      | exact zPC_same hV fcount_3
      | exact zPC_same hV (fcount_4 hsw0 hsw1 hsw2 hsw3)
      | fail
