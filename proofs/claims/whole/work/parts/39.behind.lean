/-! ===== the class's calls: what would be, events ===== -/
theorem zagr_n {I : zI} {r p : Nat} {n n' v : Nat → Nat} (h : zagr I r n v p) (h0 : n' 0 = n 0) (h1 : n' 1 = n 1) : zagr I r n' v p := fun k hk q1 q2 => h k hk (by omega) (by omega)
set_option maxHeartbeats 2000000 in
set_option maxRecDepth 20000 in
theorem l_X9_firstOtherwise_see {lay : List zL} {Q : Value → zI → zJ → Prop} {S : zS} {d0 : Nat} {v : Nat → Nat} {I : zI} {J : zJ} (hC : kC lay) (hV : vC I J S) (ha9 : zagr I 59 S.n v 9) : ∀ (m k : Nat), k + m = S.n 4 → Q (.int (zfo1 S.n v 52 m k)) I J → Z lay MX9_firstOtherwise (d0 + 2) 2 [.ref 0, .ref 11, .int (nI k)] [] I J Q := by
  obtain ⟨c0, ⟨cP, cG⟩, ⟨cX, cQ, cR⟩, ⟨cS, cB, cD⟩, cf1, cf2, cf3, cU⟩ := id hC
  have p0 : lay[1]? = some (.inl (2, [4, 8, 13, 16, 19])) := cP.1
  have s0 : kS lay 2 := cP.2.1
  obtain ⟨s1, s2, s3, s4⟩ := id s0
  have t0 : kT lay 6 := cP.2.2.1
  obtain ⟨t1, t2, t3, t4, t5⟩ := id t0
  have n5 : kN lay 11 5 := cP.2.2.2.1
  have n8 : kN lay 14 8 := cP.2.2.2.2.1
  have m8 : kN lay 17 8 := cP.2.2.2.2.2
  have w0 : vS I 2 S.n := hV.1.1.1
  have w1 : vT I J 6 S.n := hV.1.1.2.1
  have w5 : vN I 11 5 (S.n 4) (fun k => S.n (52 + k) / 100) (fun k => S.n (52 + k) % 100) := hV.1.1.2.2.1
  have w8 : vN I 14 8 (S.n 5) (fun k => S.n (57 + k) / 100) (fun k => S.n (57 + k) % 100) := hV.1.1.2.2.2.1
  have x8 : vN I 17 8 (S.n 6) (fun k => S.n (65 + k) / 100) (fun k => S.n (65 + k) % 100) := hV.1.1.2.2.2.2
  obtain ⟨v0, v1, v2, v3, v4, v5⟩ := id w0
  obtain ⟨y0, y1, y2⟩ := id w1
  have hbN := hV.1.2
  have hB := hbN.1
  have hT := hbN.2.1
  obtain ⟨b1, b2, b3, b4, b5, b6, b7, b8⟩ := id hB
  have ox := cX.1
  have oq := cQ.1
  have ow := cR.1
  have od := cD.1
  have oe := cB.1
  have of1 := cS.1
  have of2 := cS.2.1
  have ou := cU.1
  have og := cG.1
  have on5 := n5.1
  have on8 := n8.1
  have om8 := m8.1
  have ov := cR.2.1.1
  have z1 := cf1
  have z2 := cf2
  have z3 := cf3
  unfold kF at z1 z2 z3
  obtain ⟨a1, a2, a3, a4', a5'⟩ := id w5
  have a4 : ∀ j, j < S.n 4 → I (11 + 1) j = nI (S.n (52 + j) / 100) := a4'
  have a5 : ∀ j, j < S.n 4 → I (11 + 2) j = nI (S.n (52 + j) % 100) := a5'
  have k1 := n5.2.1
  have k2 := n5.2.2
  intro m
  induction m with
  | zero =>
    intro k hk hq
    refine z_iload_n (pc := 2) dX9_firstOtherwise_2 rfl rfl ?_
    refine z_aload_n (pc := 3) dX9_firstOtherwise_3 rfl rfl ?_
    refine z_getIv (pc := 4) dX9_firstOtherwise_4 f_RX9_304 (by assumption) rfl (by first | assumption | rfl) ?_
    first | refine z_icmp_geN (pc := 7) (tgt := 41) (by with_reducible rfl) (by with_reducible rfl) dX9_firstOtherwise_7 (by decide) (by omega) (by omega) (fun hb7 => ?_) (fun hb7 => absurd hb7 (by omega)) | refine z_icmp_ge (pc := 7) (tgt := 41) dX9_firstOtherwise_7 (by decide) (fun hb7 => ?_) (fun hb7 => absurd hb7 (by omega))
    · skip
      refine z_bipush (pc := 41) (v := -5) dX9_firstOtherwise_41 (by decide) ?_
      refine z_iret (pc := 43) dX9_firstOtherwise_43 rfl ?_
      exact hq
  | succ m ih =>
    intro k hk hq
    have hz := hbN.2.2.2.1 k (by omega)
    unfold zls1 at hz
    have hz9 : S.n (52 + k) / 100 < 9 := (by omega)
    have hz8 := ha9 _ hz9 hz.1 hz.2.1
    simp only [zfo1] at hq
    refine z_iload_n (pc := 2) dX9_firstOtherwise_2 rfl rfl ?_
    refine z_aload_n (pc := 3) dX9_firstOtherwise_3 rfl rfl ?_
    refine z_getIv (pc := 4) dX9_firstOtherwise_4 f_RX9_304 (by assumption) rfl (by first | assumption | exact a4 _ (by omega) | exact a5 _ (by omega) | exact hz8.1 | rfl) ?_
    first | refine z_icmp_geN (pc := 7) (tgt := 41) (by with_reducible rfl) (by with_reducible rfl) dX9_firstOtherwise_7 (by decide) (by omega) (by omega) (fun hb7 => absurd hb7 (by omega)) (fun hb7 => ?_) | refine z_icmp_ge (pc := 7) (tgt := 41) dX9_firstOtherwise_7 (by decide) (fun hb7 => absurd hb7 (by omega)) (fun hb7 => ?_)
    · skip
      refine z_aload_n (pc := 10) dX9_firstOtherwise_10 rfl rfl ?_
      refine z_getR (pc := 11) dX9_firstOtherwise_11 f_RX9_38 (by assumption) rfl ?_
      refine z_getR (pc := 14) dX9_firstOtherwise_14 f_RX9_253 (by assumption) rfl ?_
      refine z_aload_n (pc := 17) dX9_firstOtherwise_17 rfl rfl ?_
      refine z_getR (pc := 18) dX9_firstOtherwise_18 f_RX9_306 (by assumption) rfl ?_
      refine z_iload_n (pc := 21) dX9_firstOtherwise_21 rfl rfl ?_
      refine z_ialoadv (pc := 22) dX9_firstOtherwise_22 (by assumption) (by with_reducible rfl) (by omega) (by decide) (by first | assumption | exact a4 _ (by omega) | exact a5 _ (by omega) | exact hz8.1 | rfl) ?_
      refine z_ialoadv (pc := 23) dX9_firstOtherwise_23 (by assumption) (by with_reducible rfl) (by omega) (by decide) (by first | assumption | exact a4 _ (by omega) | exact a5 _ (by omega) | exact hz8.1 | rfl) ?_
      refine z_aload_n (pc := 24) dX9_firstOtherwise_24 rfl rfl ?_
      refine z_getR (pc := 25) dX9_firstOtherwise_25 f_RX9_309 (by assumption) rfl ?_
      refine z_iload_n (pc := 28) dX9_firstOtherwise_28 rfl rfl ?_
      refine z_ialoadv (pc := 29) dX9_firstOtherwise_29 (by assumption) (by with_reducible rfl) (by omega) (by decide) (by first | assumption | exact a4 _ (by omega) | exact a5 _ (by omega) | exact hz8.1 | rfl) ?_
      first | refine z_icmp_eqN (pc := 30) (tgt := 35) (by with_reducible rfl) (by with_reducible rfl) dX9_firstOtherwise_30 (by decide) (by omega) (by omega) (fun hb30 => ?_) (fun hb30 => ?_) | refine z_icmp_eq (pc := 30) (tgt := 35) dX9_firstOtherwise_30 (by decide) (fun hb30 => ?_) (fun hb30 => ?_)
      · skip
        first | refine z_iincN (pc := 35) (c := 1) dX9_firstOtherwise_35 rfl (by with_reducible rfl) (by decide) (by decide) rfl ?_ | refine z_iinc (pc := 35) dX9_firstOtherwise_35 rfl rfl (by decide) rfl ?_
        try dsimp only [zst1, zst2, zk]
        refine z_goto (pc := 38) (tgt := 2) dX9_firstOtherwise_38 (by decide) ?_
        exact ih (k + 1) (by omega) (by rw [if_pos (by omega)] at hq; exact hq)
      · skip
        refine z_iload_n (pc := 33) dX9_firstOtherwise_33 rfl rfl ?_
        refine z_iret (pc := 34) dX9_firstOtherwise_34 rfl ?_
        rw [if_neg (by omega)] at hq; exact hq
set_option maxHeartbeats 2000000 in
set_option maxRecDepth 20000 in
theorem c_X9_firstOtherwise_see {lay : List zL} {I : zI} {J : zJ} {S : zS} (hC : kC lay) (hV : vC I J S) {v : Nat → Nat} (ha9 : zagr I 59 S.n v 9) : zMet lay MX9_firstOtherwise 2 [.ref 0, .ref 11] I J (fun r I' J' => r = .int (zfo1 S.n v 52 (S.n 4) 0) ∧ I = I' ∧ J = J') := by
  refine zMet_of (t := MX9_firstOtherwise) (ls := [.ref 0, .ref 11, .null]) (by decide +kernel) (Nat.le_of_ble_eq_true rfl) rfl ?_
  refine z_iconst (pc := 0) (v := nI 0) dX9_firstOtherwise_0 (by decide) ?_
  refine z_istore_n (pc := 1) dX9_firstOtherwise_1 rfl (by decide) rfl ?_
  try dsimp only [zst1, zst2, zk]
  exact l_X9_firstOtherwise_see hC hV ha9 _ 0 (by omega) ⟨rfl, rfl, rfl⟩
set_option maxHeartbeats 2000000 in
set_option maxRecDepth 20000 in
theorem l_X9_firstOtherwise_book {lay : List zL} {Q : Value → zI → zJ → Prop} {S : zS} {d0 : Nat} {v : Nat → Nat} {I : zI} {J : zJ} (hC : kC lay) (hV : vC I J S) (ha9 : zagr I 59 S.n v 9) : ∀ (m k : Nat), k + m = S.n 6 → Q (.int (zfo1 S.n v 65 m k)) I J → Z lay MX9_firstOtherwise (d0 + 2) 2 [.ref 0, .ref 17, .int (nI k)] [] I J Q := by
  obtain ⟨c0, ⟨cP, cG⟩, ⟨cX, cQ, cR⟩, ⟨cS, cB, cD⟩, cf1, cf2, cf3, cU⟩ := id hC
  have p0 : lay[1]? = some (.inl (2, [4, 8, 13, 16, 19])) := cP.1
  have s0 : kS lay 2 := cP.2.1
  obtain ⟨s1, s2, s3, s4⟩ := id s0
  have t0 : kT lay 6 := cP.2.2.1
  obtain ⟨t1, t2, t3, t4, t5⟩ := id t0
  have n5 : kN lay 11 5 := cP.2.2.2.1
  have n8 : kN lay 14 8 := cP.2.2.2.2.1
  have m8 : kN lay 17 8 := cP.2.2.2.2.2
  have w0 : vS I 2 S.n := hV.1.1.1
  have w1 : vT I J 6 S.n := hV.1.1.2.1
  have w5 : vN I 11 5 (S.n 4) (fun k => S.n (52 + k) / 100) (fun k => S.n (52 + k) % 100) := hV.1.1.2.2.1
  have w8 : vN I 14 8 (S.n 5) (fun k => S.n (57 + k) / 100) (fun k => S.n (57 + k) % 100) := hV.1.1.2.2.2.1
  have x8 : vN I 17 8 (S.n 6) (fun k => S.n (65 + k) / 100) (fun k => S.n (65 + k) % 100) := hV.1.1.2.2.2.2
  obtain ⟨v0, v1, v2, v3, v4, v5⟩ := id w0
  obtain ⟨y0, y1, y2⟩ := id w1
  have hbN := hV.1.2
  have hB := hbN.1
  have hT := hbN.2.1
  obtain ⟨b1, b2, b3, b4, b5, b6, b7, b8⟩ := id hB
  have ox := cX.1
  have oq := cQ.1
  have ow := cR.1
  have od := cD.1
  have oe := cB.1
  have of1 := cS.1
  have of2 := cS.2.1
  have ou := cU.1
  have og := cG.1
  have on5 := n5.1
  have on8 := n8.1
  have om8 := m8.1
  have ov := cR.2.1.1
  have z1 := cf1
  have z2 := cf2
  have z3 := cf3
  unfold kF at z1 z2 z3
  obtain ⟨a1, a2, a3, a4', a5'⟩ := id x8
  have a4 : ∀ j, j < S.n 6 → I (17 + 1) j = nI (S.n (65 + j) / 100) := a4'
  have a5 : ∀ j, j < S.n 6 → I (17 + 2) j = nI (S.n (65 + j) % 100) := a5'
  have k1 := m8.2.1
  have k2 := m8.2.2
  intro m
  induction m with
  | zero =>
    intro k hk hq
    refine z_iload_n (pc := 2) dX9_firstOtherwise_2 rfl rfl ?_
    refine z_aload_n (pc := 3) dX9_firstOtherwise_3 rfl rfl ?_
    refine z_getIv (pc := 4) dX9_firstOtherwise_4 f_RX9_304 (by assumption) rfl (by first | assumption | rfl) ?_
    first | refine z_icmp_geN (pc := 7) (tgt := 41) (by with_reducible rfl) (by with_reducible rfl) dX9_firstOtherwise_7 (by decide) (by omega) (by omega) (fun hb7 => ?_) (fun hb7 => absurd hb7 (by omega)) | refine z_icmp_ge (pc := 7) (tgt := 41) dX9_firstOtherwise_7 (by decide) (fun hb7 => ?_) (fun hb7 => absurd hb7 (by omega))
    · skip
      refine z_bipush (pc := 41) (v := -5) dX9_firstOtherwise_41 (by decide) ?_
      refine z_iret (pc := 43) dX9_firstOtherwise_43 rfl ?_
      exact hq
  | succ m ih =>
    intro k hk hq
    have hz := hbN.2.2.2.2.2 k (by omega)
    unfold zls1 at hz
    have hz9 : S.n (65 + k) / 100 < 9 := (by omega)
    have hz8 := ha9 _ hz9 hz.1 hz.2.1
    simp only [zfo1] at hq
    refine z_iload_n (pc := 2) dX9_firstOtherwise_2 rfl rfl ?_
    refine z_aload_n (pc := 3) dX9_firstOtherwise_3 rfl rfl ?_
    refine z_getIv (pc := 4) dX9_firstOtherwise_4 f_RX9_304 (by assumption) rfl (by first | assumption | exact a4 _ (by omega) | exact a5 _ (by omega) | exact hz8.1 | rfl) ?_
    first | refine z_icmp_geN (pc := 7) (tgt := 41) (by with_reducible rfl) (by with_reducible rfl) dX9_firstOtherwise_7 (by decide) (by omega) (by omega) (fun hb7 => absurd hb7 (by omega)) (fun hb7 => ?_) | refine z_icmp_ge (pc := 7) (tgt := 41) dX9_firstOtherwise_7 (by decide) (fun hb7 => absurd hb7 (by omega)) (fun hb7 => ?_)
    · skip
      refine z_aload_n (pc := 10) dX9_firstOtherwise_10 rfl rfl ?_
      refine z_getR (pc := 11) dX9_firstOtherwise_11 f_RX9_38 (by assumption) rfl ?_
      refine z_getR (pc := 14) dX9_firstOtherwise_14 f_RX9_253 (by assumption) rfl ?_
      refine z_aload_n (pc := 17) dX9_firstOtherwise_17 rfl rfl ?_
      refine z_getR (pc := 18) dX9_firstOtherwise_18 f_RX9_306 (by assumption) rfl ?_
      refine z_iload_n (pc := 21) dX9_firstOtherwise_21 rfl rfl ?_
      refine z_ialoadv (pc := 22) dX9_firstOtherwise_22 (by assumption) (by with_reducible rfl) (by omega) (by decide) (by first | assumption | exact a4 _ (by omega) | exact a5 _ (by omega) | exact hz8.1 | rfl) ?_
      refine z_ialoadv (pc := 23) dX9_firstOtherwise_23 (by assumption) (by with_reducible rfl) (by omega) (by decide) (by first | assumption | exact a4 _ (by omega) | exact a5 _ (by omega) | exact hz8.1 | rfl) ?_
      refine z_aload_n (pc := 24) dX9_firstOtherwise_24 rfl rfl ?_
      refine z_getR (pc := 25) dX9_firstOtherwise_25 f_RX9_309 (by assumption) rfl ?_
      refine z_iload_n (pc := 28) dX9_firstOtherwise_28 rfl rfl ?_
      refine z_ialoadv (pc := 29) dX9_firstOtherwise_29 (by assumption) (by with_reducible rfl) (by omega) (by decide) (by first | assumption | exact a4 _ (by omega) | exact a5 _ (by omega) | exact hz8.1 | rfl) ?_
      first | refine z_icmp_eqN (pc := 30) (tgt := 35) (by with_reducible rfl) (by with_reducible rfl) dX9_firstOtherwise_30 (by decide) (by omega) (by omega) (fun hb30 => ?_) (fun hb30 => ?_) | refine z_icmp_eq (pc := 30) (tgt := 35) dX9_firstOtherwise_30 (by decide) (fun hb30 => ?_) (fun hb30 => ?_)
      · skip
        first | refine z_iincN (pc := 35) (c := 1) dX9_firstOtherwise_35 rfl (by with_reducible rfl) (by decide) (by decide) rfl ?_ | refine z_iinc (pc := 35) dX9_firstOtherwise_35 rfl rfl (by decide) rfl ?_
        try dsimp only [zst1, zst2, zk]
        refine z_goto (pc := 38) (tgt := 2) dX9_firstOtherwise_38 (by decide) ?_
        exact ih (k + 1) (by omega) (by rw [if_pos (by omega)] at hq; exact hq)
      · skip
        refine z_iload_n (pc := 33) dX9_firstOtherwise_33 rfl rfl ?_
        refine z_iret (pc := 34) dX9_firstOtherwise_34 rfl ?_
        rw [if_neg (by omega)] at hq; exact hq
set_option maxHeartbeats 2000000 in
set_option maxRecDepth 20000 in
theorem c_X9_firstOtherwise_book {lay : List zL} {I : zI} {J : zJ} {S : zS} (hC : kC lay) (hV : vC I J S) {v : Nat → Nat} (ha9 : zagr I 59 S.n v 9) : zMet lay MX9_firstOtherwise 2 [.ref 0, .ref 17] I J (fun r I' J' => r = .int (zfo1 S.n v 65 (S.n 6) 0) ∧ I = I' ∧ J = J') := by
  refine zMet_of (t := MX9_firstOtherwise) (ls := [.ref 0, .ref 17, .null]) (by decide +kernel) (Nat.le_of_ble_eq_true rfl) rfl ?_
  refine z_iconst (pc := 0) (v := nI 0) dX9_firstOtherwise_0 (by decide) ?_
  refine z_istore_n (pc := 1) dX9_firstOtherwise_1 rfl (by decide) rfl ?_
  try dsimp only [zst1, zst2, zk]
  exact l_X9_firstOtherwise_book hC hV ha9 _ 0 (by omega) ⟨rfl, rfl, rfl⟩
set_option maxHeartbeats 2000000 in
set_option maxRecDepth 20000 in
theorem c_X9_looked {lay : List zL} {I : zI} {J : zJ} {S : zS} (hC : kC lay) (hV : vC I J S) : zMet lay MX9_looked 22 [.ref 0] I J (fun r I' J' => zPC I J (flooked S) r I' J') := by
  refine zMet_of (t := MX9_looked) (ls := [.ref 0]) (by decide +kernel) (Nat.le_of_ble_eq_true rfl) rfl ?_
  obtain ⟨c0, ⟨cP, cG⟩, ⟨cX, cQ, cR⟩, ⟨cS, cB, cD⟩, cf1, cf2, cf3, cU⟩ := id hC
  have p0 : lay[1]? = some (.inl (2, [4, 8, 13, 16, 19])) := cP.1
  have s0 : kS lay 2 := cP.2.1
  obtain ⟨s1, s2, s3, s4⟩ := id s0
  have t0 : kT lay 6 := cP.2.2.1
  obtain ⟨t1, t2, t3, t4, t5⟩ := id t0
  have n5 : kN lay 11 5 := cP.2.2.2.1
  have n8 : kN lay 14 8 := cP.2.2.2.2.1
  have m8 : kN lay 17 8 := cP.2.2.2.2.2
  have w0 : vS I 2 S.n := hV.1.1.1
  have w1 : vT I J 6 S.n := hV.1.1.2.1
  have w5 : vN I 11 5 (S.n 4) (fun k => S.n (52 + k) / 100) (fun k => S.n (52 + k) % 100) := hV.1.1.2.2.1
  have w8 : vN I 14 8 (S.n 5) (fun k => S.n (57 + k) / 100) (fun k => S.n (57 + k) % 100) := hV.1.1.2.2.2.1
  have x8 : vN I 17 8 (S.n 6) (fun k => S.n (65 + k) / 100) (fun k => S.n (65 + k) % 100) := hV.1.1.2.2.2.2
  obtain ⟨v0, v1, v2, v3, v4, v5⟩ := id w0
  obtain ⟨y0, y1, y2⟩ := id w1
  have hbN := hV.1.2
  have hB := hbN.1
  have hT := hbN.2.1
  obtain ⟨b1, b2, b3, b4, b5, b6, b7, b8⟩ := id hB
  have ox := cX.1
  have oq := cQ.1
  have ow := cR.1
  have od := cD.1
  have oe := cB.1
  have of1 := cS.1
  have of2 := cS.2.1
  have ou := cU.1
  have og := cG.1
  have on5 := n5.1
  have on8 := n8.1
  have om8 := m8.1
  have ov := cR.2.1.1
  have z1 := cf1
  have z2 := cf2
  have z3 := cf3
  unfold kF at z1 z2 z3
  refine z_aload_n (pc := 0) dX9_looked_0 rfl rfl ?_
  refine z_getR (pc := 1) dX9_looked_1 f_RX9_38 (by assumption) rfl ?_
  refine z_aload_n (pc := 4) dX9_looked_4 rfl rfl ?_
  refine z_getR (pc := 5) dX9_looked_5 f_RX9_12 (by assumption) rfl ?_
  refine z_getR (pc := 8) dX9_looked_8 f_RX9_83 (by assumption) rfl ?_
  refine z_aload_n (pc := 11) dX9_looked_11 rfl rfl ?_
  refine z_getR (pc := 12) dX9_looked_12 f_RX9_12 (by assumption) rfl ?_
  refine z_getR (pc := 15) dX9_looked_15 f_RX9_102 (by assumption) rfl ?_
  refine z_callV (pc := 18) (c_X4_isFound s0 w0 hB t0 w1 hT cR (by omega) (by omega)) dX9_looked_18 l_RX9_250 m_MX4_isFound n_MX4_isFound e_MX4_isFound rfl (by omega) (by assumption) rfl rfl (Nat.le_of_ble_eq_true rfl) ?_
  rintro _ _ _ ⟨⟨rfl, v, hv, ha9⟩ | ⟨rfl, hv⟩, hi, hj⟩
  · skip
    try dsimp only [zov, Option.toList, List.cons_append, List.nil_append]
    first | refine z_if_neN (pc := 21) (tgt := 27) (by with_reducible rfl) dX9_looked_21 (by decide) (by omega) (fun hb21 => ?_) (fun hb21 => absurd hb21 (by decide)) | refine z_if_ne (pc := 21) (tgt := 27) dX9_looked_21 (by decide) (fun hb21 => ?_) (fun hb21 => absurd hb21 (by decide))
    · skip
      refine z_aload_n (pc := 27) dX9_looked_27 rfl rfl ?_
      refine z_aload_n (pc := 28) dX9_looked_28 rfl rfl ?_
      refine z_getR (pc := 29) dX9_looked_29 f_RX9_12 (by assumption) rfl ?_
      refine z_getR (pc := 32) dX9_looked_32 f_RX9_323 (by assumption) rfl ?_
      refine z_callV (pc := 35) (c_X9_firstOtherwise_book hC (vC_keep hV (zkp_f hi) (zkp_g hj)) ha9) dX9_looked_35 l_RX9_298 m_MX9_firstOtherwise n_MX9_firstOtherwise e_MX9_firstOtherwise rfl (by omega) (by assumption) rfl rfl (Nat.le_of_ble_eq_true rfl) ?_
      rintro _ _ _ (⟨rfl, rfl, rfl⟩)
      try dsimp only [zov, Option.toList, List.cons_append, List.nil_append]
      refine z_iret (pc := 38) dX9_looked_38 rfl ?_
      first
        | exact zPC_keep hV (zkp_f hi) (zkp_g hj) (by rw [flooked, hv])
        | fail
  · skip
    try dsimp only [zov, Option.toList, List.cons_append, List.nil_append]
    first | refine z_if_neN (pc := 21) (tgt := 27) (by with_reducible rfl) dX9_looked_21 (by decide) (by omega) (fun hb21 => absurd hb21 (by decide)) (fun hb21 => ?_) | refine z_if_ne (pc := 21) (tgt := 27) dX9_looked_21 (by decide) (fun hb21 => absurd hb21 (by decide)) (fun hb21 => ?_)
    · skip
      refine z_bipush (pc := 24) (v := -6) dX9_looked_24 (by decide) ?_
      refine z_iret (pc := 26) dX9_looked_26 rfl ?_
      first
        | exact zPC_keep hV (zkp_f hi) (zkp_g hj) (by rw [flooked, hv])
        | fail
theorem zrb_n {n : Nat → Nat} {k v : Nat} (h : zrd (ztk (zset1 n (7 + k) v)) = none) : zrb n k v = zrnd (ztk (zset1 n (7 + k) v)) (ztk (zset1 n (7 + k) v)) := by unfold zrb; dsimp only; rw [h]
theorem zrb_y {n n2 : Nat → Nat} {k v : Nat} (h : zrd (ztk (zset1 n (7 + k) v)) = some n2) : zrb n k v = zrnd n2 n2 := by unfold zrb; dsimp only; rw [h]
set_option maxHeartbeats 2000000 in
set_option maxRecDepth 20000 in
theorem c_X9_isRoundedBehind {lay : List zL} {I : zI} {J : zJ} {S : zS} (hC : kC lay) (hV : vC I J S) {k x : Nat} (hk : k < 9) (hx : x ≤ 20) : zMet lay MX9_isRoundedBehind 22 [.ref 0, .int (nI k), .int (nI x)] I J (fun r I' J' => ((r = .int (nI 1) ∧ ∃ w, zrb S.n k x = some w ∧ zagr I' 59 S.n w 9) ∨ (r = .int (nI 0) ∧ zrb S.n k x = none)) ∧ zkp I I' ∧ zkp J J') := by
  refine zMet_of (t := MX9_isRoundedBehind) (ls := [.ref 0, .int (nI k), .int (nI x)]) (by decide +kernel) (Nat.le_of_ble_eq_true rfl) rfl ?_
  obtain ⟨c0, ⟨cP, cG⟩, ⟨cX, cQ, cR⟩, ⟨cS, cB, cD⟩, cf1, cf2, cf3, cU⟩ := id hC
  have p0 : lay[1]? = some (.inl (2, [4, 8, 13, 16, 19])) := cP.1
  have s0 : kS lay 2 := cP.2.1
  obtain ⟨s1, s2, s3, s4⟩ := id s0
  have t0 : kT lay 6 := cP.2.2.1
  obtain ⟨t1, t2, t3, t4, t5⟩ := id t0
  have n5 : kN lay 11 5 := cP.2.2.2.1
  have n8 : kN lay 14 8 := cP.2.2.2.2.1
  have m8 : kN lay 17 8 := cP.2.2.2.2.2
  have w0 : vS I 2 S.n := hV.1.1.1
  have w1 : vT I J 6 S.n := hV.1.1.2.1
  have w5 : vN I 11 5 (S.n 4) (fun k => S.n (52 + k) / 100) (fun k => S.n (52 + k) % 100) := hV.1.1.2.2.1
  have w8 : vN I 14 8 (S.n 5) (fun k => S.n (57 + k) / 100) (fun k => S.n (57 + k) % 100) := hV.1.1.2.2.2.1
  have x8 : vN I 17 8 (S.n 6) (fun k => S.n (65 + k) / 100) (fun k => S.n (65 + k) % 100) := hV.1.1.2.2.2.2
  obtain ⟨v0, v1, v2, v3, v4, v5⟩ := id w0
  obtain ⟨y0, y1, y2⟩ := id w1
  have hbN := hV.1.2
  have hB := hbN.1
  have hT := hbN.2.1
  obtain ⟨b1, b2, b3, b4, b5, b6, b7, b8⟩ := id hB
  have ox := cX.1
  have oq := cQ.1
  have ow := cR.1
  have od := cD.1
  have oe := cB.1
  have of1 := cS.1
  have of2 := cS.2.1
  have ou := cU.1
  have og := cG.1
  have on5 := n5.1
  have on8 := n8.1
  have om8 := m8.1
  have ov := cR.2.1.1
  have z1 := cf1
  have z2 := cf2
  have z3 := cf3
  unfold kF at z1 z2 z3
  have hB1 := zset1_bSc hB hk hx
  have g0 : (ztk (zset1 S.n (7 + k) x)) 0 = S.n 0 := by rw [ztk_o (by omega), zset1_o (by omega)]
  have g1 : (ztk (zset1 S.n (7 + k) x)) 1 = S.n 1 := by rw [ztk_o (by omega), zset1_o (by omega)]
  refine z_aload_n (pc := 0) dX9_isRoundedBehind_0 rfl rfl ?_
  refine z_getR (pc := 1) dX9_isRoundedBehind_1 f_RX9_45 (by assumption) rfl ?_
  refine z_aload_n (pc := 4) dX9_isRoundedBehind_4 rfl rfl ?_
  refine z_getR (pc := 5) dX9_isRoundedBehind_5 f_RX9_12 (by assumption) rfl ?_
  refine z_getR (pc := 8) dX9_isRoundedBehind_8 f_RX9_83 (by assumption) rfl ?_
  refine z_callV (pc := 11) (c_X6_copyFrom cS s0 w0 (by omega) b5) dX9_isRoundedBehind_11 l_RX9_302 m_MX6_copyFrom n_MX6_copyFrom e_MX6_copyFrom rfl (by omega) (by assumption) rfl rfl (Nat.le_of_ble_eq_true rfl) ?_
  rintro _ _ _ (⟨rfl, ⟨hs, hi⟩, rfl⟩)
  have hs1 := vS_c (k := k) (x := x) hs hk
  try dsimp only [zov, Option.toList, List.cons_append, List.nil_append]
  refine z_aload_n (pc := 14) dX9_isRoundedBehind_14 rfl rfl ?_
  refine z_getR (pc := 15) dX9_isRoundedBehind_15 f_RX9_45 (by assumption) rfl ?_
  refine z_getR (pc := 18) dX9_isRoundedBehind_18 f_RX9_94 (by assumption) rfl ?_
  refine z_iload_n (pc := 21) dX9_isRoundedBehind_21 rfl rfl ?_
  refine z_iload_n (pc := 22) dX9_isRoundedBehind_22 rfl rfl ?_
  refine z_iastore (pc := 23) dX9_isRoundedBehind_23 (by assumption) (by with_reducible rfl) (by omega) (by decide) ?_
  refine z_aload_n (pc := 24) dX9_isRoundedBehind_24 rfl rfl ?_
  refine z_getR (pc := 25) dX9_isRoundedBehind_25 f_RX9_52 (by assumption) rfl ?_
  refine z_aload_n (pc := 28) dX9_isRoundedBehind_28 rfl rfl ?_
  refine z_getR (pc := 29) dX9_isRoundedBehind_29 f_RX9_45 (by assumption) rfl ?_
  refine z_callV (pc := 32) (c_X7_takeCounts cS hs1 hB1 cB) dX9_isRoundedBehind_32 l_RX9_105 m_MX7_takeCounts n_MX7_takeCounts e_MX7_takeCounts rfl (by omega) (by assumption) rfl rfl (Nat.le_of_ble_eq_true rfl) ?_
  rintro _ _ _ (⟨rfl, rfl, ⟨ht, hj⟩⟩)
  have hs2 := vS_n (vS_to hs1 (zup_o (a := 43) (k := 2) (v := nI 0) (by omega)) (zup_o (by omega)) (zup_o (by omega)) (zup_o (by omega))) (n' := (ztk (zset1 S.n (7 + k) x))) (fun k hk => ztk_o (by omega))
  try dsimp only [zov, Option.toList, List.cons_append, List.nil_append]
  refine z_aload_n (pc := 35) dX9_isRoundedBehind_35 rfl rfl ?_
  refine z_aload_n (pc := 36) dX9_isRoundedBehind_36 rfl rfl ?_
  refine z_getR (pc := 37) dX9_isRoundedBehind_37 f_RX9_45 (by assumption) rfl ?_
  refine z_aload_n (pc := 40) dX9_isRoundedBehind_40 rfl rfl ?_
  refine z_getR (pc := 41) dX9_isRoundedBehind_41 f_RX9_52 (by assumption) rfl ?_
  refine z_callV (pc := 44) (c_X9_isRoundDone hC cS hs2 (ztk_bS hB1) cB ht (ztk_bT hB1) (by omega) (by omega) (by omega)) dX9_isRoundedBehind_44 l_RX9_186 m_MX9_isRoundDone n_MX9_isRoundDone e_MX9_isRoundDone rfl (by omega) (by assumption) rfl rfl (Nat.le_of_ble_eq_true rfl) ?_
  rintro _ _ _ ⟨⟨rfl, n2, hn, hu, hT2⟩ | ⟨rfl, hn, hu⟩, hi2, hj2⟩
  · have hs3 := vS_n (vS_to hs2 (hi2 _ (by omega) (by omega)) (hi2 _ (by omega) (by omega)) (hi2 _ (by omega) (by omega)) (hi2 _ (by omega) (by omega))) (n' := n2) (fun k hk => zrd_o hn k (by omega) (by omega)); have hb3 : bS n2 := bS_to (ztk_bS hB1) (fun k hk => zrd_o hn k (by omega) (by omega)); have ht3 : bT n2 := hT2; have e0 : n2 0 = S.n 0 := (zrd_o hn 0 (by omega) (by omega)).trans g0; have e1 : n2 1 = S.n 1 := (zrd_o hn 1 (by omega) (by omega)).trans g1
    try dsimp only [zov, Option.toList, List.cons_append, List.nil_append]
    refine z_pop (pc := 47) dX9_isRoundedBehind_47 rfl ?_
    refine z_aload_n (pc := 48) dX9_isRoundedBehind_48 rfl rfl ?_
    refine z_getR (pc := 49) dX9_isRoundedBehind_49 f_RX9_38 (by assumption) rfl ?_
    refine z_aload_n (pc := 52) dX9_isRoundedBehind_52 rfl rfl ?_
    refine z_getR (pc := 53) dX9_isRoundedBehind_53 f_RX9_45 (by assumption) rfl ?_
    refine z_aload_n (pc := 56) dX9_isRoundedBehind_56 rfl rfl ?_
    refine z_getR (pc := 57) dX9_isRoundedBehind_57 f_RX9_52 (by assumption) rfl ?_
    refine z_callV (pc := 60) (c_X4_isFound cS hs3 hb3 cB hu ht3 cR (by omega) (by omega)) dX9_isRoundedBehind_60 l_RX9_250 m_MX4_isFound n_MX4_isFound e_MX4_isFound rfl (by omega) (by assumption) rfl rfl (Nat.le_of_ble_eq_true rfl) ?_
    rintro _ _ _ ⟨⟨rfl, v, hv, ha9⟩ | ⟨rfl, hv⟩, hi3, hj3⟩
    · skip
      try dsimp only [zov, Option.toList, List.cons_append, List.nil_append]
      refine z_zret (pc := 63) dX9_isRoundedBehind_63 rfl (by first | decide | assumption) ?_
      have hk1 : zkp I _ := fun y hy => (hi3 y (by omega)).trans ((hi2 y (by omega) (by omega)).trans ((zup_o (by omega)).trans ((zup_o (by omega)).trans (hi y (by omega)))))
      have hk2 : zkp J _ := fun y hy => (hj3 y (by omega) (by omega)).trans ((hj2 y (by omega) (by omega) (by omega)).trans (hj y (by omega) (by omega)))
      first
      | exact ⟨Or.inl ⟨rfl, v, by rw [zrb_y hn]; exact hv, zagr_n ha9 e0.symm e1.symm⟩, hk1, hk2⟩
      | exact ⟨Or.inl ⟨rfl, v, by rw [zrb_n hn]; exact hv, zagr_n ha9 e0.symm e1.symm⟩, hk1, hk2⟩
      | exact ⟨Or.inr ⟨rfl, by rw [zrb_y hn]; exact hv⟩, hk1, hk2⟩
      | exact ⟨Or.inr ⟨rfl, by rw [zrb_n hn]; exact hv⟩, hk1, hk2⟩
      | fail
    · skip
      try dsimp only [zov, Option.toList, List.cons_append, List.nil_append]
      refine z_zret (pc := 63) dX9_isRoundedBehind_63 rfl (by first | decide | assumption) ?_
      have hk1 : zkp I _ := fun y hy => (hi3 y (by omega)).trans ((hi2 y (by omega) (by omega)).trans ((zup_o (by omega)).trans ((zup_o (by omega)).trans (hi y (by omega)))))
      have hk2 : zkp J _ := fun y hy => (hj3 y (by omega) (by omega)).trans ((hj2 y (by omega) (by omega) (by omega)).trans (hj y (by omega) (by omega)))
      first
      | exact ⟨Or.inl ⟨rfl, v, by rw [zrb_y hn]; exact hv, zagr_n ha9 e0.symm e1.symm⟩, hk1, hk2⟩
      | exact ⟨Or.inl ⟨rfl, v, by rw [zrb_n hn]; exact hv, zagr_n ha9 e0.symm e1.symm⟩, hk1, hk2⟩
      | exact ⟨Or.inr ⟨rfl, by rw [zrb_y hn]; exact hv⟩, hk1, hk2⟩
      | exact ⟨Or.inr ⟨rfl, by rw [zrb_n hn]; exact hv⟩, hk1, hk2⟩
      | fail
  · have hs3 := (vS_to hs2 (hi2 _ (by omega) (by omega)) (hi2 _ (by omega) (by omega)) (hi2 _ (by omega) (by omega)) (hi2 _ (by omega) (by omega))); have hb3 := ztk_bS hB1; have ht3 := ztk_bT hB1; have e0 := g0; have e1 := g1
    try dsimp only [zov, Option.toList, List.cons_append, List.nil_append]
    refine z_pop (pc := 47) dX9_isRoundedBehind_47 rfl ?_
    refine z_aload_n (pc := 48) dX9_isRoundedBehind_48 rfl rfl ?_
    refine z_getR (pc := 49) dX9_isRoundedBehind_49 f_RX9_38 (by assumption) rfl ?_
    refine z_aload_n (pc := 52) dX9_isRoundedBehind_52 rfl rfl ?_
    refine z_getR (pc := 53) dX9_isRoundedBehind_53 f_RX9_45 (by assumption) rfl ?_
    refine z_aload_n (pc := 56) dX9_isRoundedBehind_56 rfl rfl ?_
    refine z_getR (pc := 57) dX9_isRoundedBehind_57 f_RX9_52 (by assumption) rfl ?_
    refine z_callV (pc := 60) (c_X4_isFound cS hs3 hb3 cB hu ht3 cR (by omega) (by omega)) dX9_isRoundedBehind_60 l_RX9_250 m_MX4_isFound n_MX4_isFound e_MX4_isFound rfl (by omega) (by assumption) rfl rfl (Nat.le_of_ble_eq_true rfl) ?_
    rintro _ _ _ ⟨⟨rfl, v, hv, ha9⟩ | ⟨rfl, hv⟩, hi3, hj3⟩
    · skip
      try dsimp only [zov, Option.toList, List.cons_append, List.nil_append]
      refine z_zret (pc := 63) dX9_isRoundedBehind_63 rfl (by first | decide | assumption) ?_
      have hk1 : zkp I _ := fun y hy => (hi3 y (by omega)).trans ((hi2 y (by omega) (by omega)).trans ((zup_o (by omega)).trans ((zup_o (by omega)).trans (hi y (by omega)))))
      have hk2 : zkp J _ := fun y hy => (hj3 y (by omega) (by omega)).trans ((hj2 y (by omega) (by omega) (by omega)).trans (hj y (by omega) (by omega)))
      first
      | exact ⟨Or.inl ⟨rfl, v, by rw [zrb_y hn]; exact hv, zagr_n ha9 e0.symm e1.symm⟩, hk1, hk2⟩
      | exact ⟨Or.inl ⟨rfl, v, by rw [zrb_n hn]; exact hv, zagr_n ha9 e0.symm e1.symm⟩, hk1, hk2⟩
      | exact ⟨Or.inr ⟨rfl, by rw [zrb_y hn]; exact hv⟩, hk1, hk2⟩
      | exact ⟨Or.inr ⟨rfl, by rw [zrb_n hn]; exact hv⟩, hk1, hk2⟩
      | fail
    · skip
      try dsimp only [zov, Option.toList, List.cons_append, List.nil_append]
      refine z_zret (pc := 63) dX9_isRoundedBehind_63 rfl (by first | decide | assumption) ?_
      have hk1 : zkp I _ := fun y hy => (hi3 y (by omega)).trans ((hi2 y (by omega) (by omega)).trans ((zup_o (by omega)).trans ((zup_o (by omega)).trans (hi y (by omega)))))
      have hk2 : zkp J _ := fun y hy => (hj3 y (by omega) (by omega)).trans ((hj2 y (by omega) (by omega) (by omega)).trans (hj y (by omega) (by omega)))
      first
      | exact ⟨Or.inl ⟨rfl, v, by rw [zrb_y hn]; exact hv, zagr_n ha9 e0.symm e1.symm⟩, hk1, hk2⟩
      | exact ⟨Or.inl ⟨rfl, v, by rw [zrb_n hn]; exact hv, zagr_n ha9 e0.symm e1.symm⟩, hk1, hk2⟩
      | exact ⟨Or.inr ⟨rfl, by rw [zrb_y hn]; exact hv⟩, hk1, hk2⟩
      | exact ⟨Or.inr ⟨rfl, by rw [zrb_n hn]; exact hv⟩, hk1, hk2⟩
      | fail
theorem zfi_0 {n : Nat → Nat} {k f v : Nat} {p : Nat × Int32} (h : zfi1 n k v = false) : zfi n k (f + 1) v p = zfi n k f (v + 1) p := by
  show zfi n k f (v + 1) _ = _
  rw [h, if_neg (by decide)]
theorem zfi_1 {n : Nat → Nat} {k f v : Nat} {p : Nat × Int32} (h : zfi1 n k v = true) : zfi n k (f + 1) v p = zfi n k f (v + 1) (p.1 + 1, if p.1 = 0 then nI v else p.2) := by
  show zfi n k f (v + 1) _ = _
  rw [h, if_pos rfl]
theorem zfi1_a {n : Nat → Nat} {k v : Nat} (h : zrb n k v = none) : zfi1 n k v = false := by unfold zfi1; rw [h]
theorem zfi1_b {n w : Nat → Nat} {k v : Nat} (h : zrb n k v = some w) (h2 : zfo1 n w 52 (n 4) 0 = -5) : zfi1 n k v = true := by unfold zfi1; rw [h]; exact decide_eq_true h2
theorem zfi1_c {n w : Nat → Nat} {k v : Nat} (h : zrb n k v = some w) (h2 : ¬ zfo1 n w 52 (n 4) 0 = -5) : zfi1 n k v = false := by unfold zfi1; rw [h]; exact decide_eq_false h2
theorem zod1_a {n : Nat → Nat} {k v : Nat} (h : zrb n k v = none) : zod1 n k v = false := by unfold zod1; rw [h]
theorem zod1_b {n w : Nat → Nat} {k v : Nat} (h : zrb n k v = some w) (h2 : v ≤ w k) : zod1 n k v = true := by unfold zod1; rw [h]; exact decide_eq_true h2
theorem zod1_c {n w : Nat → Nat} {k v : Nat} (h : zrb n k v = some w) (h2 : ¬ v ≤ w k) : zod1 n k v = false := by unfold zod1; rw [h]; exact decide_eq_false h2
theorem zod_0 {n : Nat → Nat} {k f v c : Nat} (h : zod1 n k v = false) : zod n k (f + 1) v c = zod n k f (v + 1) c := by
  show zod n k f (v + 1) _ = _
  rw [h, if_neg (by decide)]
theorem zod_1 {n : Nat → Nat} {k f v c : Nat} (h : zod1 n k v = true) : zod n k (f + 1) v c = zod n k f (v + 1) (c + 1) := by
  show zod n k f (v + 1) _ = _
  rw [h, if_pos rfl]
set_option maxHeartbeats 2000000 in
set_option maxRecDepth 20000 in
theorem l_X9_fitting {lay : List zL} {Q : Value → zI → zJ → Prop} {S : zS} {d0 a b x : Nat} (hC : kC lay) (ha : a < S.n 0) (hb : b < S.n 1) (hx : x ≤ 1) : ∀ (m v : Nat) (p : Nat × Int32) (I : zI) (J : zJ), v + m = 21 → vC I J S → p.1 ≤ v → (∀ I' J', zkp I I' → zkp J J' → Q (.int (if x = 0 then nI (zfi S.n (3 * a + b) m v p).1 else (zfi S.n (3 * a + b) m v p).2)) I' J') → Z lay MX9_fitting (d0 + 23) 36 [.ref 0, .int (nI a), .int (nI b), .int (nI x), .int (nI p.1), .int p.2, .int (nI v)] [] I J Q := by
  intro m
  induction m with
  | zero =>
    intro v p I J hk hV hp hq
    obtain rfl : v = 21 := (by omega)
    have hq9 : Q (.int (if x = 0 then nI p.1 else p.2)) I J := hq I J (zkp_r _) (zkp_r _)
    refine z_iload (pc := 36) dX9_fitting_36 rfl ?_
    refine z_bipush (pc := 38) (v := nI 20) dX9_fitting_38 (by decide) ?_
    first | refine z_icmp_gtN (pc := 40) (tgt := 91) (by with_reducible rfl) (by with_reducible rfl) dX9_fitting_40 (by decide) (by omega) (by omega) (fun hb40 => ?_) (fun hb40 => absurd hb40 (by omega)) | refine z_icmp_gt (pc := 40) (tgt := 91) dX9_fitting_40 (by decide) (fun hb40 => ?_) (fun hb40 => absurd hb40 (by omega))
    · skip
      refine z_iload_n (pc := 91) dX9_fitting_91 rfl rfl ?_
      first | refine z_if_neN (pc := 92) (tgt := 100) (by with_reducible rfl) dX9_fitting_92 (by decide) (by omega) (fun hb92 => ?_) (fun hb92 => ?_) | refine z_if_ne (pc := 92) (tgt := 100) dX9_fitting_92 (by decide) (fun hb92 => ?_) (fun hb92 => ?_)
      · skip
        refine z_iload (pc := 100) dX9_fitting_100 rfl ?_
        refine z_iret (pc := 102) dX9_fitting_102 rfl ?_
        first
          | (rw [if_pos (by omega)] at hq9; exact hq9)
          | (rw [if_neg (by omega)] at hq9; exact hq9)
          | fail
      · skip
        refine z_iload (pc := 95) dX9_fitting_95 rfl ?_
        refine z_goto (pc := 97) (tgt := 102) dX9_fitting_97 (by decide) ?_
        refine z_iret (pc := 102) dX9_fitting_102 rfl ?_
        first
          | (rw [if_pos (by omega)] at hq9; exact hq9)
          | (rw [if_neg (by omega)] at hq9; exact hq9)
          | fail
  | succ m ih =>
    intro v p I J hk hV hp hq
    obtain ⟨c0, ⟨cP, cG⟩, ⟨cX, cQ, cR⟩, ⟨cS, cB, cD⟩, cf1, cf2, cf3, cU⟩ := id hC
    have p0 : lay[1]? = some (.inl (2, [4, 8, 13, 16, 19])) := cP.1
    have s0 : kS lay 2 := cP.2.1
    obtain ⟨s1, s2, s3, s4⟩ := id s0
    have t0 : kT lay 6 := cP.2.2.1
    obtain ⟨t1, t2, t3, t4, t5⟩ := id t0
    have n5 : kN lay 11 5 := cP.2.2.2.1
    have n8 : kN lay 14 8 := cP.2.2.2.2.1
    have m8 : kN lay 17 8 := cP.2.2.2.2.2
    have w0 : vS I 2 S.n := hV.1.1.1
    have w1 : vT I J 6 S.n := hV.1.1.2.1
    have w5 : vN I 11 5 (S.n 4) (fun k => S.n (52 + k) / 100) (fun k => S.n (52 + k) % 100) := hV.1.1.2.2.1
    have w8 : vN I 14 8 (S.n 5) (fun k => S.n (57 + k) / 100) (fun k => S.n (57 + k) % 100) := hV.1.1.2.2.2.1
    have x8 : vN I 17 8 (S.n 6) (fun k => S.n (65 + k) / 100) (fun k => S.n (65 + k) % 100) := hV.1.1.2.2.2.2
    obtain ⟨v0, v1, v2, v3, v4, v5⟩ := id w0
    obtain ⟨y0, y1, y2⟩ := id w1
    have hbN := hV.1.2
    have hB := hbN.1
    have hT := hbN.2.1
    obtain ⟨b1, b2, b3, b4, b5, b6, b7, b8⟩ := id hB
    have ox := cX.1
    have oq := cQ.1
    have ow := cR.1
    have od := cD.1
    have oe := cB.1
    have of1 := cS.1
    have of2 := cS.2.1
    have ou := cU.1
    have og := cG.1
    have on5 := n5.1
    have on8 := n8.1
    have om8 := m8.1
    have ov := cR.2.1.1
    have z1 := cf1
    have z2 := cf2
    have z3 := cf3
    unfold kF at z1 z2 z3
    refine z_iload (pc := 36) dX9_fitting_36 rfl ?_
    refine z_bipush (pc := 38) (v := nI 20) dX9_fitting_38 (by decide) ?_
    first | refine z_icmp_gtN (pc := 40) (tgt := 91) (by with_reducible rfl) (by with_reducible rfl) dX9_fitting_40 (by decide) (by omega) (by omega) (fun hb40 => absurd hb40 (by omega)) (fun hb40 => ?_) | refine z_icmp_gt (pc := 40) (tgt := 91) dX9_fitting_40 (by decide) (fun hb40 => absurd hb40 (by omega)) (fun hb40 => ?_)
    · skip
      refine z_aload_n (pc := 43) dX9_fitting_43 rfl rfl ?_
      refine z_iload_n (pc := 44) dX9_fitting_44 rfl rfl ?_
      refine z_iload_n (pc := 45) dX9_fitting_45 rfl rfl ?_
      refine z_callS (pc := 46) c_X9_place dX9_fitting_46 l_RX9_98 m_MX9_place s_MX9_place rfl (by omega) rfl (Nat.le_of_ble_eq_true rfl) ?_
      rintro _ _ _ (⟨rfl, rfl, rfl⟩)
      try dsimp only [zov, Option.toList, List.cons_append, List.nil_append]
      refine z_iload (pc := 49) dX9_fitting_49 rfl ?_
      refine z_callV (pc := 51) (c_X9_isRoundedBehind hC hV (by omega) (by omega)) dX9_fitting_51 l_RX9_295 m_MX9_isRoundedBehind n_MX9_isRoundedBehind e_MX9_isRoundedBehind rfl (by omega) (by assumption) rfl rfl (Nat.le_of_ble_eq_true rfl) ?_
      rintro _ _ _ ⟨⟨rfl, w, hw, ha9⟩ | ⟨rfl, hw⟩, hi, hj⟩
      · have hV2 := vC_keep hV hi hj
        try dsimp only [zov, Option.toList, List.cons_append, List.nil_append]
        first | refine z_if_eqN (pc := 54) (tgt := 85) (by with_reducible rfl) dX9_fitting_54 (by decide) (by omega) (fun hb54 => absurd hb54 (by decide)) (fun hb54 => ?_) | refine z_if_eq (pc := 54) (tgt := 85) dX9_fitting_54 (by decide) (fun hb54 => absurd hb54 (by decide)) (fun hb54 => ?_)
        · skip
          refine z_aload_n (pc := 57) dX9_fitting_57 rfl rfl ?_
          refine z_aload_n (pc := 58) dX9_fitting_58 rfl rfl ?_
          refine z_getR (pc := 59) dX9_fitting_59 f_RX9_12 (by assumption) rfl ?_
          refine z_getR (pc := 62) dX9_fitting_62 f_RX9_280 (by assumption) rfl ?_
          refine z_callV (pc := 65) (c_X9_firstOtherwise_see hC hV2 ha9) dX9_fitting_65 l_RX9_298 m_MX9_firstOtherwise n_MX9_firstOtherwise e_MX9_firstOtherwise rfl (by omega) (by assumption) rfl rfl (Nat.le_of_ble_eq_true rfl) ?_
          rintro _ _ _ (⟨rfl, rfl, rfl⟩)
          try dsimp only [zov, Option.toList, List.cons_append, List.nil_append]
          refine z_bipush (pc := 68) (v := -5) dX9_fitting_68 (by decide) ?_
          refine z_icmp_ne (pc := 70) (tgt := 85) dX9_fitting_70 (by decide) (fun hb70 => ?_) (fun hb70 => ?_)
          · skip
            first | refine z_iincN (pc := 85) (c := 1) dX9_fitting_85 rfl (by with_reducible rfl) (by decide) (by decide) rfl ?_ | refine z_iinc (pc := 85) dX9_fitting_85 rfl rfl (by decide) rfl ?_
            try dsimp only [zst1, zst2, zk]
            refine z_goto (pc := 88) (tgt := 36) dX9_fitting_88 (by decide) ?_
            first
              | exact ih (v + 1) p _ _ (by omega) hV2 (by omega) (fun I9 J9 h1 h2 => by rw [← zfi_0 (zfi1_a hw)]; exact hq I9 J9 (zkp_t hi h1) (zkp_t hj h2))
              | exact ih (v + 1) p _ _ (by omega) hV2 (by omega) (fun I9 J9 h1 h2 => by rw [← zfi_0 (zfi1_c hw hb70)]; exact hq I9 J9 (zkp_t hi h1) (zkp_t hj h2))
              | exact ih (v + 1) (p.1 + 1, p.2) _ _ (by omega) hV2 (by show p.1 + 1 ≤ _; omega) (fun I9 J9 h1 h2 => by have e := zfi_1 (f := m) (p := p) (zfi1_b hw hb70); rw [if_neg hb75] at e; rw [← e]; exact hq I9 J9 (zkp_t hi h1) (zkp_t hj h2))
              | exact ih (v + 1) (p.1 + 1, nI v) _ _ (by omega) hV2 (by show p.1 + 1 ≤ _; omega) (fun I9 J9 h1 h2 => by have e := zfi_1 (f := m) (p := p) (zfi1_b hw hb70); rw [if_pos hb75] at e; rw [← e]; exact hq I9 J9 (zkp_t hi h1) (zkp_t hj h2))
              | fail
          · skip
            refine z_iload (pc := 73) dX9_fitting_73 rfl ?_
            first | refine z_if_neN (pc := 75) (tgt := 82) (by with_reducible rfl) dX9_fitting_75 (by decide) (by omega) (fun hb75 => ?_) (fun hb75 => ?_) | refine z_if_ne (pc := 75) (tgt := 82) dX9_fitting_75 (by decide) (fun hb75 => ?_) (fun hb75 => ?_)
            · skip
              first | refine z_iincN (pc := 82) (c := 1) dX9_fitting_82 rfl (by with_reducible rfl) (by decide) (by decide) rfl ?_ | refine z_iinc (pc := 82) dX9_fitting_82 rfl rfl (by decide) rfl ?_
              try dsimp only [zst1, zst2, zk]
              first | refine z_iincN (pc := 85) (c := 1) dX9_fitting_85 rfl (by with_reducible rfl) (by decide) (by decide) rfl ?_ | refine z_iinc (pc := 85) dX9_fitting_85 rfl rfl (by decide) rfl ?_
              try dsimp only [zst1, zst2, zk]
              refine z_goto (pc := 88) (tgt := 36) dX9_fitting_88 (by decide) ?_
              first
                | exact ih (v + 1) p _ _ (by omega) hV2 (by omega) (fun I9 J9 h1 h2 => by rw [← zfi_0 (zfi1_a hw)]; exact hq I9 J9 (zkp_t hi h1) (zkp_t hj h2))
                | exact ih (v + 1) p _ _ (by omega) hV2 (by omega) (fun I9 J9 h1 h2 => by rw [← zfi_0 (zfi1_c hw hb70)]; exact hq I9 J9 (zkp_t hi h1) (zkp_t hj h2))
                | exact ih (v + 1) (p.1 + 1, p.2) _ _ (by omega) hV2 (by show p.1 + 1 ≤ _; omega) (fun I9 J9 h1 h2 => by have e := zfi_1 (f := m) (p := p) (zfi1_b hw hb70); rw [if_neg hb75] at e; rw [← e]; exact hq I9 J9 (zkp_t hi h1) (zkp_t hj h2))
                | exact ih (v + 1) (p.1 + 1, nI v) _ _ (by omega) hV2 (by show p.1 + 1 ≤ _; omega) (fun I9 J9 h1 h2 => by have e := zfi_1 (f := m) (p := p) (zfi1_b hw hb70); rw [if_pos hb75] at e; rw [← e]; exact hq I9 J9 (zkp_t hi h1) (zkp_t hj h2))
                | fail
            · skip
              refine z_iload (pc := 78) dX9_fitting_78 rfl ?_
              refine z_istore (pc := 80) dX9_fitting_80 (by decide) rfl ?_
              try dsimp only [zst1, zst2, zk]
              first | refine z_iincN (pc := 82) (c := 1) dX9_fitting_82 rfl (by with_reducible rfl) (by decide) (by decide) rfl ?_ | refine z_iinc (pc := 82) dX9_fitting_82 rfl rfl (by decide) rfl ?_
              try dsimp only [zst1, zst2, zk]
              first | refine z_iincN (pc := 85) (c := 1) dX9_fitting_85 rfl (by with_reducible rfl) (by decide) (by decide) rfl ?_ | refine z_iinc (pc := 85) dX9_fitting_85 rfl rfl (by decide) rfl ?_
              try dsimp only [zst1, zst2, zk]
              refine z_goto (pc := 88) (tgt := 36) dX9_fitting_88 (by decide) ?_
              first
                | exact ih (v + 1) p _ _ (by omega) hV2 (by omega) (fun I9 J9 h1 h2 => by rw [← zfi_0 (zfi1_a hw)]; exact hq I9 J9 (zkp_t hi h1) (zkp_t hj h2))
                | exact ih (v + 1) p _ _ (by omega) hV2 (by omega) (fun I9 J9 h1 h2 => by rw [← zfi_0 (zfi1_c hw hb70)]; exact hq I9 J9 (zkp_t hi h1) (zkp_t hj h2))
                | exact ih (v + 1) (p.1 + 1, p.2) _ _ (by omega) hV2 (by show p.1 + 1 ≤ _; omega) (fun I9 J9 h1 h2 => by have e := zfi_1 (f := m) (p := p) (zfi1_b hw hb70); rw [if_neg hb75] at e; rw [← e]; exact hq I9 J9 (zkp_t hi h1) (zkp_t hj h2))
                | exact ih (v + 1) (p.1 + 1, nI v) _ _ (by omega) hV2 (by show p.1 + 1 ≤ _; omega) (fun I9 J9 h1 h2 => by have e := zfi_1 (f := m) (p := p) (zfi1_b hw hb70); rw [if_pos hb75] at e; rw [← e]; exact hq I9 J9 (zkp_t hi h1) (zkp_t hj h2))
                | fail
      · have hV2 := vC_keep hV hi hj
        try dsimp only [zov, Option.toList, List.cons_append, List.nil_append]
        first | refine z_if_eqN (pc := 54) (tgt := 85) (by with_reducible rfl) dX9_fitting_54 (by decide) (by omega) (fun hb54 => ?_) (fun hb54 => absurd hb54 (by decide)) | refine z_if_eq (pc := 54) (tgt := 85) dX9_fitting_54 (by decide) (fun hb54 => ?_) (fun hb54 => absurd hb54 (by decide))
        · skip
          first | refine z_iincN (pc := 85) (c := 1) dX9_fitting_85 rfl (by with_reducible rfl) (by decide) (by decide) rfl ?_ | refine z_iinc (pc := 85) dX9_fitting_85 rfl rfl (by decide) rfl ?_
          try dsimp only [zst1, zst2, zk]
          refine z_goto (pc := 88) (tgt := 36) dX9_fitting_88 (by decide) ?_
          first
            | exact ih (v + 1) p _ _ (by omega) hV2 (by omega) (fun I9 J9 h1 h2 => by rw [← zfi_0 (zfi1_a hw)]; exact hq I9 J9 (zkp_t hi h1) (zkp_t hj h2))
            | exact ih (v + 1) p _ _ (by omega) hV2 (by omega) (fun I9 J9 h1 h2 => by rw [← zfi_0 (zfi1_c hw hb70)]; exact hq I9 J9 (zkp_t hi h1) (zkp_t hj h2))
            | exact ih (v + 1) (p.1 + 1, p.2) _ _ (by omega) hV2 (by show p.1 + 1 ≤ _; omega) (fun I9 J9 h1 h2 => by have e := zfi_1 (f := m) (p := p) (zfi1_b hw hb70); rw [if_neg hb75] at e; rw [← e]; exact hq I9 J9 (zkp_t hi h1) (zkp_t hj h2))
            | exact ih (v + 1) (p.1 + 1, nI v) _ _ (by omega) hV2 (by show p.1 + 1 ≤ _; omega) (fun I9 J9 h1 h2 => by have e := zfi_1 (f := m) (p := p) (zfi1_b hw hb70); rw [if_pos hb75] at e; rw [← e]; exact hq I9 J9 (zkp_t hi h1) (zkp_t hj h2))
            | fail
theorem ffitting_1 {S : zS} {i j w : Int32} (h : ¬ isC (S.n 0) (S.n 1) i j) : ffitting S i j w = (.int (-1), S) := by
  rw [ffitting, zC_n h]
theorem ffitting_2 {S : zS} {i j w : Int32} (h : ¬ isR 1 w) : ffitting S i j w = (.int (-1), S) := by
  rw [ffitting, zR_n h]
  cases zC (S.n 0) (S.n 1) i j <;> rfl
theorem ffitting_3 {S : zS} {a b x : Nat} (b2 : S.n 0 ≤ 3) (b4 : S.n 1 ≤ 3) (ha : a < S.n 0) (hb : b < S.n 1) (hx : x ≤ 1) : ffitting S (nI a) (nI b) (nI x) = (.int (if x = 0 then nI (zfi S.n (3 * a + b) 21 0 (0, -5)).1 else (zfi S.n (3 * a + b) 21 0 (0, -5)).2), S) := by
  rw [ffitting, zC_y b2 b4 ha hb, zR_y (by decide) hx]
set_option maxHeartbeats 2000000 in
set_option maxRecDepth 20000 in
theorem c_X9_fitting {lay : List zL} {I : zI} {J : zJ} {S : zS} (hC : kC lay) (hV : vC I J S) {i j w : Int32} : zMet lay MX9_fitting 23 [.ref 0, .int i, .int j, .int w] I J (fun r I' J' => zPC I J (ffitting S i j w) r I' J') := by
  refine zMet_of (t := MX9_fitting) (ls := [.ref 0, .int i, .int j, .int w, .null, .null, .null]) (by decide +kernel) (Nat.le_of_ble_eq_true rfl) rfl ?_
  obtain ⟨c0, ⟨cP, cG⟩, ⟨cX, cQ, cR⟩, ⟨cS, cB, cD⟩, cf1, cf2, cf3, cU⟩ := id hC
  have p0 : lay[1]? = some (.inl (2, [4, 8, 13, 16, 19])) := cP.1
  have s0 : kS lay 2 := cP.2.1
  obtain ⟨s1, s2, s3, s4⟩ := id s0
  have t0 : kT lay 6 := cP.2.2.1
  obtain ⟨t1, t2, t3, t4, t5⟩ := id t0
  have n5 : kN lay 11 5 := cP.2.2.2.1
  have n8 : kN lay 14 8 := cP.2.2.2.2.1
  have m8 : kN lay 17 8 := cP.2.2.2.2.2
  have w0 : vS I 2 S.n := hV.1.1.1
  have w1 : vT I J 6 S.n := hV.1.1.2.1
  have w5 : vN I 11 5 (S.n 4) (fun k => S.n (52 + k) / 100) (fun k => S.n (52 + k) % 100) := hV.1.1.2.2.1
  have w8 : vN I 14 8 (S.n 5) (fun k => S.n (57 + k) / 100) (fun k => S.n (57 + k) % 100) := hV.1.1.2.2.2.1
  have x8 : vN I 17 8 (S.n 6) (fun k => S.n (65 + k) / 100) (fun k => S.n (65 + k) % 100) := hV.1.1.2.2.2.2
  obtain ⟨v0, v1, v2, v3, v4, v5⟩ := id w0
  obtain ⟨y0, y1, y2⟩ := id w1
  have hbN := hV.1.2
  have hB := hbN.1
  have hT := hbN.2.1
  obtain ⟨b1, b2, b3, b4, b5, b6, b7, b8⟩ := id hB
  have ox := cX.1
  have oq := cQ.1
  have ow := cR.1
  have od := cD.1
  have oe := cB.1
  have of1 := cS.1
  have of2 := cS.2.1
  have ou := cU.1
  have og := cG.1
  have on5 := n5.1
  have on8 := n8.1
  have om8 := m8.1
  have ov := cR.2.1.1
  have z1 := cf1
  have z2 := cf2
  have z3 := cf3
  unfold kF at z1 z2 z3
  refine z_aload_n (pc := 0) dX9_fitting_0 rfl rfl ?_
  refine z_getR (pc := 1) dX9_fitting_1 f_RX9_12 (by assumption) rfl ?_
  refine z_getR (pc := 4) dX9_fitting_4 f_RX9_83 (by assumption) rfl ?_
  refine z_iload_n (pc := 7) dX9_fitting_7 rfl rfl ?_
  refine z_iload_n (pc := 8) dX9_fitting_8 rfl rfl ?_
  refine z_callV (pc := 9) (c_X6_hasCell s0 w0 hB) dX9_fitting_9 l_RX9_90 m_MX6_hasCell n_MX6_hasCell e_MX6_hasCell rfl (by omega) (by assumption) rfl rfl (Nat.le_of_ble_eq_true rfl) ?_
  rintro _ _ _ ⟨⟨rfl, hc⟩ | ⟨rfl, hc⟩, rfl, rfl⟩
  · obtain ⟨a, b, rfl, rfl, ha, hbb⟩ := hc; have hk : 3 * a + b < 9 := (by omega)
    try dsimp only [zov, Option.toList, List.cons_append, List.nil_append]
    first | refine z_if_eqN (pc := 12) (tgt := 24) (by with_reducible rfl) dX9_fitting_12 (by decide) (by omega) (fun hb12 => absurd hb12 (by decide)) (fun hb12 => ?_) | refine z_if_eq (pc := 12) (tgt := 24) dX9_fitting_12 (by decide) (fun hb12 => absurd hb12 (by decide)) (fun hb12 => ?_)
    · skip
      refine z_iload_n (pc := 15) dX9_fitting_15 rfl rfl ?_
      first | refine z_if_ltN (pc := 16) (tgt := 24) (by with_reducible rfl) dX9_fitting_16 (by decide) (by omega) (fun hb16 => ?_) (fun hb16 => ?_) | refine z_if_lt (pc := 16) (tgt := 24) dX9_fitting_16 (by decide) (fun hb16 => ?_) (fun hb16 => ?_)
      · skip
        refine z_iconst (pc := 24) (v := -1) dX9_fitting_24 (by decide) ?_
        refine z_iret (pc := 25) dX9_fitting_25 rfl ?_
        first
          | exact zPC_same hV (ffitting_1 hc)
          | exact zPC_same hV (ffitting_2 (isR_1 (by decide) hb16))
          | exact zPC_same hV (ffitting_2 (isR_2 (by decide) (Int32.not_le.mp hb21)))
          | fail
      · skip
        refine z_iload_n (pc := 19) dX9_fitting_19 rfl rfl ?_
        refine z_iconst (pc := 20) (v := nI 1) dX9_fitting_20 (by decide) ?_
        first | refine z_icmp_leN (pc := 21) (tgt := 26) (by with_reducible rfl) (by with_reducible rfl) dX9_fitting_21 (by decide) (by omega) (by omega) (fun hb21 => ?_) (fun hb21 => ?_) | refine z_icmp_le (pc := 21) (tgt := 26) dX9_fitting_21 (by decide) (fun hb21 => ?_) (fun hb21 => ?_)
        · skip
          refine z_iconst (pc := 26) (v := nI 0) dX9_fitting_26 (by decide) ?_
          refine z_istore (pc := 27) dX9_fitting_27 (by decide) rfl ?_
          try dsimp only [zst1, zst2, zk]
          refine z_bipush (pc := 29) (v := -5) dX9_fitting_29 (by decide) ?_
          refine z_istore (pc := 31) dX9_fitting_31 (by decide) rfl ?_
          try dsimp only [zst1, zst2, zk]
          refine z_iconst (pc := 33) (v := nI 0) dX9_fitting_33 (by decide) ?_
          refine z_istore (pc := 34) dX9_fitting_34 (by decide) rfl ?_
          try dsimp only [zst1, zst2, zk]
          obtain ⟨x, rfl, hx⟩ := nI_get2 (m := 1) (by omega) hb16 (Int32.not_lt.mpr hb21)
          exact l_X9_fitting hC ha hbb hx 21 0 (0, -5) I J (by omega) hV (by decide) (fun I9 J9 h1 h2 => zPC_keep hV h1 h2 (ffitting_3 b2 b4 ha hbb hx))
        · skip
          refine z_iconst (pc := 24) (v := -1) dX9_fitting_24 (by decide) ?_
          refine z_iret (pc := 25) dX9_fitting_25 rfl ?_
          first
            | exact zPC_same hV (ffitting_1 hc)
            | exact zPC_same hV (ffitting_2 (isR_1 (by decide) hb16))
            | exact zPC_same hV (ffitting_2 (isR_2 (by decide) (Int32.not_le.mp hb21)))
            | fail
  · skip
    try dsimp only [zov, Option.toList, List.cons_append, List.nil_append]
    first | refine z_if_eqN (pc := 12) (tgt := 24) (by with_reducible rfl) dX9_fitting_12 (by decide) (by omega) (fun hb12 => ?_) (fun hb12 => absurd hb12 (by decide)) | refine z_if_eq (pc := 12) (tgt := 24) dX9_fitting_12 (by decide) (fun hb12 => ?_) (fun hb12 => absurd hb12 (by decide))
    · skip
      refine z_iconst (pc := 24) (v := -1) dX9_fitting_24 (by decide) ?_
      refine z_iret (pc := 25) dX9_fitting_25 rfl ?_
      first
        | exact zPC_same hV (ffitting_1 hc)
        | exact zPC_same hV (ffitting_2 (isR_1 (by decide) hb16))
        | exact zPC_same hV (ffitting_2 (isR_2 (by decide) (Int32.not_le.mp hb21)))
        | fail
set_option maxHeartbeats 2000000 in
set_option maxRecDepth 20000 in
theorem l_X9_odds {lay : List zL} {Q : Value → zI → zJ → Prop} {S : zS} {d0 a b : Nat} {w : Int32} (hC : kC lay) (ha : a < S.n 0) (hb : b < S.n 1) : ∀ (m v c : Nat) (I : zI) (J : zJ), v + m = 10 → vC I J S → c ≤ v → (∀ I' J', zkp I I' → zkp J J' → Z lay MX9_odds (d0 + 23) 82 [.ref 0, .int (nI a), .int (nI b), .int w, .int (nI (zod S.n (3 * a + b) m v c)), .int (nI 10)] [] I' J' Q) → Z lay MX9_odds (d0 + 23) 34 [.ref 0, .int (nI a), .int (nI b), .int w, .int (nI c), .int (nI v)] [] I J Q := by
  intro m
  induction m with
  | zero =>
    intro v c I J hk hV hp hq
    obtain rfl : v = 10 := (by omega)
    refine z_iload (pc := 34) dX9_odds_34 rfl ?_
    refine z_bipush (pc := 36) (v := nI 10) dX9_odds_36 (by decide) ?_
    first | refine z_icmp_geN (pc := 38) (tgt := 82) (by with_reducible rfl) (by with_reducible rfl) dX9_odds_38 (by decide) (by omega) (by omega) (fun hb38 => ?_) (fun hb38 => absurd hb38 (by omega)) | refine z_icmp_ge (pc := 38) (tgt := 82) dX9_odds_38 (by decide) (fun hb38 => ?_) (fun hb38 => absurd hb38 (by omega))
    · skip
      exact hq I J (zkp_r _) (zkp_r _)
  | succ m ih =>
    intro v c I J hk hV hp hq
    obtain ⟨c0, ⟨cP, cG⟩, ⟨cX, cQ, cR⟩, ⟨cS, cB, cD⟩, cf1, cf2, cf3, cU⟩ := id hC
    have p0 : lay[1]? = some (.inl (2, [4, 8, 13, 16, 19])) := cP.1
    have s0 : kS lay 2 := cP.2.1
    obtain ⟨s1, s2, s3, s4⟩ := id s0
    have t0 : kT lay 6 := cP.2.2.1
    obtain ⟨t1, t2, t3, t4, t5⟩ := id t0
    have n5 : kN lay 11 5 := cP.2.2.2.1
    have n8 : kN lay 14 8 := cP.2.2.2.2.1
    have m8 : kN lay 17 8 := cP.2.2.2.2.2
    have w0 : vS I 2 S.n := hV.1.1.1
    have w1 : vT I J 6 S.n := hV.1.1.2.1
    have w5 : vN I 11 5 (S.n 4) (fun k => S.n (52 + k) / 100) (fun k => S.n (52 + k) % 100) := hV.1.1.2.2.1
    have w8 : vN I 14 8 (S.n 5) (fun k => S.n (57 + k) / 100) (fun k => S.n (57 + k) % 100) := hV.1.1.2.2.2.1
    have x8 : vN I 17 8 (S.n 6) (fun k => S.n (65 + k) / 100) (fun k => S.n (65 + k) % 100) := hV.1.1.2.2.2.2
    obtain ⟨v0, v1, v2, v3, v4, v5⟩ := id w0
    obtain ⟨y0, y1, y2⟩ := id w1
    have hbN := hV.1.2
    have hB := hbN.1
    have hT := hbN.2.1
    obtain ⟨b1, b2, b3, b4, b5, b6, b7, b8⟩ := id hB
    have ox := cX.1
    have oq := cQ.1
    have ow := cR.1
    have od := cD.1
    have oe := cB.1
    have of1 := cS.1
    have of2 := cS.2.1
    have ou := cU.1
    have og := cG.1
    have on5 := n5.1
    have on8 := n8.1
    have om8 := m8.1
    have ov := cR.2.1.1
    have z1 := cf1
    have z2 := cf2
    have z3 := cf3
    unfold kF at z1 z2 z3
    refine z_iload (pc := 34) dX9_odds_34 rfl ?_
    refine z_bipush (pc := 36) (v := nI 10) dX9_odds_36 (by decide) ?_
    first | refine z_icmp_geN (pc := 38) (tgt := 82) (by with_reducible rfl) (by with_reducible rfl) dX9_odds_38 (by decide) (by omega) (by omega) (fun hb38 => absurd hb38 (by omega)) (fun hb38 => ?_) | refine z_icmp_ge (pc := 38) (tgt := 82) dX9_odds_38 (by decide) (fun hb38 => absurd hb38 (by omega)) (fun hb38 => ?_)
    · skip
      refine z_aload_n (pc := 41) dX9_odds_41 rfl rfl ?_
      refine z_iload_n (pc := 42) dX9_odds_42 rfl rfl ?_
      refine z_iload_n (pc := 43) dX9_odds_43 rfl rfl ?_
      refine z_callS (pc := 44) c_X9_place dX9_odds_44 l_RX9_98 m_MX9_place s_MX9_place rfl (by omega) rfl (Nat.le_of_ble_eq_true rfl) ?_
      rintro _ _ _ (⟨rfl, rfl, rfl⟩)
      try dsimp only [zov, Option.toList, List.cons_append, List.nil_append]
      refine z_iload (pc := 47) dX9_odds_47 rfl ?_
      refine z_callV (pc := 49) (c_X9_isRoundedBehind hC hV (by omega) (by omega)) dX9_odds_49 l_RX9_295 m_MX9_isRoundedBehind n_MX9_isRoundedBehind e_MX9_isRoundedBehind rfl (by omega) (by assumption) rfl rfl (Nat.le_of_ble_eq_true rfl) ?_
      rintro _ _ _ ⟨⟨rfl, w, hw, ha9⟩ | ⟨rfl, hw⟩, hi, hj⟩
      · have hV2 := vC_keep hV hi hj; have hz8 := ha9 (3 * a + b) (by omega) (by omega) (by omega)
        try dsimp only [zov, Option.toList, List.cons_append, List.nil_append]
        first | refine z_if_eqN (pc := 52) (tgt := 76) (by with_reducible rfl) dX9_odds_52 (by decide) (by omega) (fun hb52 => absurd hb52 (by decide)) (fun hb52 => ?_) | refine z_if_eq (pc := 52) (tgt := 76) dX9_odds_52 (by decide) (fun hb52 => absurd hb52 (by decide)) (fun hb52 => ?_)
        · skip
          refine z_aload_n (pc := 55) dX9_odds_55 rfl rfl ?_
          refine z_getR (pc := 56) dX9_odds_56 f_RX9_38 (by assumption) rfl ?_
          refine z_getR (pc := 59) dX9_odds_59 f_RX9_253 (by assumption) rfl ?_
          refine z_iload_n (pc := 62) dX9_odds_62 rfl rfl ?_
          refine z_iload_n (pc := 63) dX9_odds_63 rfl rfl ?_
          refine z_callS (pc := 64) c_X9_place dX9_odds_64 l_RX9_98 m_MX9_place s_MX9_place rfl (by omega) rfl (Nat.le_of_ble_eq_true rfl) ?_
          rintro _ _ _ (⟨rfl, rfl, rfl⟩)
          try dsimp only [zov, Option.toList, List.cons_append, List.nil_append]
          refine z_ialoadv (pc := 67) dX9_odds_67 (by assumption) (by with_reducible rfl) (by omega) (by decide) (by first | assumption | exact hz8.1 | rfl) ?_
          refine z_iload (pc := 68) dX9_odds_68 rfl ?_
          first | refine z_icmp_ltN (pc := 70) (tgt := 76) (by with_reducible rfl) (by with_reducible rfl) dX9_odds_70 (by decide) (by omega) (by omega) (fun hb70 => ?_) (fun hb70 => ?_) | refine z_icmp_lt (pc := 70) (tgt := 76) dX9_odds_70 (by decide) (fun hb70 => ?_) (fun hb70 => ?_)
          · skip
            first | refine z_iincN (pc := 76) (c := 1) dX9_odds_76 rfl (by with_reducible rfl) (by decide) (by decide) rfl ?_ | refine z_iinc (pc := 76) dX9_odds_76 rfl rfl (by decide) rfl ?_
            try dsimp only [zst1, zst2, zk]
            refine z_goto (pc := 79) (tgt := 34) dX9_odds_79 (by decide) ?_
            first
              | exact ih (v + 1) c _ _ (by omega) hV2 (by omega) (fun I9 J9 h1 h2 => by rw [← zod_0 (zod1_a hw)]; exact hq I9 J9 (zkp_t hi h1) (zkp_t hj h2))
              | exact ih (v + 1) c _ _ (by omega) hV2 (by omega) (fun I9 J9 h1 h2 => by rw [← zod_0 (zod1_c hw (by omega))]; exact hq I9 J9 (zkp_t hi h1) (zkp_t hj h2))
              | exact ih (v + 1) (c + 1) _ _ (by omega) hV2 (by omega) (fun I9 J9 h1 h2 => by rw [← zod_1 (zod1_b hw (by omega))]; exact hq I9 J9 (zkp_t hi h1) (zkp_t hj h2))
              | fail
          · skip
            first | refine z_iincN (pc := 73) (c := 1) dX9_odds_73 rfl (by with_reducible rfl) (by decide) (by decide) rfl ?_ | refine z_iinc (pc := 73) dX9_odds_73 rfl rfl (by decide) rfl ?_
            try dsimp only [zst1, zst2, zk]
            first | refine z_iincN (pc := 76) (c := 1) dX9_odds_76 rfl (by with_reducible rfl) (by decide) (by decide) rfl ?_ | refine z_iinc (pc := 76) dX9_odds_76 rfl rfl (by decide) rfl ?_
            try dsimp only [zst1, zst2, zk]
            refine z_goto (pc := 79) (tgt := 34) dX9_odds_79 (by decide) ?_
            first
              | exact ih (v + 1) c _ _ (by omega) hV2 (by omega) (fun I9 J9 h1 h2 => by rw [← zod_0 (zod1_a hw)]; exact hq I9 J9 (zkp_t hi h1) (zkp_t hj h2))
              | exact ih (v + 1) c _ _ (by omega) hV2 (by omega) (fun I9 J9 h1 h2 => by rw [← zod_0 (zod1_c hw (by omega))]; exact hq I9 J9 (zkp_t hi h1) (zkp_t hj h2))
              | exact ih (v + 1) (c + 1) _ _ (by omega) hV2 (by omega) (fun I9 J9 h1 h2 => by rw [← zod_1 (zod1_b hw (by omega))]; exact hq I9 J9 (zkp_t hi h1) (zkp_t hj h2))
              | fail
      · have hV2 := vC_keep hV hi hj
        try dsimp only [zov, Option.toList, List.cons_append, List.nil_append]
        first | refine z_if_eqN (pc := 52) (tgt := 76) (by with_reducible rfl) dX9_odds_52 (by decide) (by omega) (fun hb52 => ?_) (fun hb52 => absurd hb52 (by decide)) | refine z_if_eq (pc := 52) (tgt := 76) dX9_odds_52 (by decide) (fun hb52 => ?_) (fun hb52 => absurd hb52 (by decide))
        · skip
          first | refine z_iincN (pc := 76) (c := 1) dX9_odds_76 rfl (by with_reducible rfl) (by decide) (by decide) rfl ?_ | refine z_iinc (pc := 76) dX9_odds_76 rfl rfl (by decide) rfl ?_
          try dsimp only [zst1, zst2, zk]
          refine z_goto (pc := 79) (tgt := 34) dX9_odds_79 (by decide) ?_
          first
            | exact ih (v + 1) c _ _ (by omega) hV2 (by omega) (fun I9 J9 h1 h2 => by rw [← zod_0 (zod1_a hw)]; exact hq I9 J9 (zkp_t hi h1) (zkp_t hj h2))
            | exact ih (v + 1) c _ _ (by omega) hV2 (by omega) (fun I9 J9 h1 h2 => by rw [← zod_0 (zod1_c hw (by omega))]; exact hq I9 J9 (zkp_t hi h1) (zkp_t hj h2))
            | exact ih (v + 1) (c + 1) _ _ (by omega) hV2 (by omega) (fun I9 J9 h1 h2 => by rw [← zod_1 (zod1_b hw (by omega))]; exact hq I9 J9 (zkp_t hi h1) (zkp_t hj h2))
            | fail
theorem zod_le {n : Nat → Nat} {k : Nat} : ∀ (f v c : Nat), zod n k f v c ≤ c + f
  | 0, _, c => Nat.le_refl _
  | f + 1, v, c => by
    show zod n k f (v + 1) _ ≤ _
    have := zod_le (n := n) (k := k) f (v + 1) (if zod1 n k v = true then c + 1 else c)
    split at this <;> simp_all <;> omega
theorem fodds_1 {S : zS} {i j w : Int32} (h : ¬ isC (S.n 0) (S.n 1) i j) : fodds S i j w = (.long (-9223372036854775808), S) := by
  rw [fodds, zC_n h]; rfl
theorem fodds_3 {S : zS} {a b : Nat} {p : Int32} (b2 : S.n 0 ≤ 3) (b4 : S.n 1 ≤ 3) (ha : a < S.n 0) (hb : b < S.n 1) : fodds S (nI a) (nI b) p = (.long (zpt p (zred (zod S.n (3 * a + b) 10 0 0) 10).1 (zred (zod S.n (3 * a + b) 10 0 0) 10).2), S) := by
  rw [fodds, zC_y b2 b4 ha hb]
theorem zpt_r {p : Int32} {x y : Nat} (h : ¬ isR 1 p) : zpt p x y = -9223372036854775808 := zpt_n (fun e => h ⟨0, e, by omega⟩) (fun e => h ⟨1, e, by omega⟩)
theorem fodds_2 {S : zS} {a b : Nat} {p : Int32} (b2 : S.n 0 ≤ 3) (b4 : S.n 1 ≤ 3) (ha : a < S.n 0) (hb : b < S.n 1) (h : ¬ isR 1 p) : fodds S (nI a) (nI b) p = (.long (-9223372036854775808), S) := by
  rw [fodds_3 b2 b4 ha hb, zpt_r h]
