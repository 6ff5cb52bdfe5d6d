/-! ===== the class's calls: feeds, fits, rounds, sums ===== -/
theorem zset_o {m : Nat → Nat} {k j : Nat} {q : Nat × Nat} (hk : k < 9) (h : j < 34 ∨ 52 ≤ j) : zset m k q j = m j := by
  unfold zset
  rw [if_neg (by omega), if_neg (by omega)]
theorem zfl_o {P : Nat → Bool} {x y : Nat} : ∀ (l : List Nat) (m m' : Nat → Nat), (∀ k ∈ l, k < 9) → zfl P x y l m = some m' → ∀ j, (j < 34 ∨ 52 ≤ j) → m' j = m j
  | [], m, m', _, e, j, _ => by cases e; rfl
  | k :: l, m, m', hl, e, j, hj => by
    have hk := hl k List.mem_cons_self
    have hl2 : ∀ a ∈ l, a < 9 := fun a ha => hl a (List.mem_cons_of_mem _ ha)
    unfold zfl at e
    split at e
    · split at e
      · rw [zfl_o l _ m' hl2 e j hj, zset_o hk hj]
      · cases e
    · exact zfl_o l m m' hl2 e j hj
theorem zfits_o {n : Nat → Nat} {w : Nat} : ∀ (f l : Nat) (m m' : Nat → Nat), zfits n w f l m = some m' → ∀ j, (j < 34 ∨ 52 ≤ j) → m' j = m j
  | 0, _, m, m', e, j, _ => by cases e; rfl
  | f + 1, l, m, m', e, j, hj => by
    unfold zfits at e
    cases e1 : zsm n m w l with
    | none => rw [e1] at e; cases e
    | some q =>
      rw [e1] at e
      dsimp only at e
      split at e
      · cases e2 : zfl (zP n w l) (n (25 + (3 * w + l)) * q.2) q.1 (zl (n 0) (n 1) 0) m with
        | none => rw [e2] at e; cases e
        | some m2 =>
          rw [e2] at e
          rw [zfits_o f (l + 1) m2 m' e j hj]
          exact zfl_o _ m m2 zl_lt e2 j hj
      · exact zfits_o f (l + 1) m m' e j hj
theorem zfit_o {n m m' : Nat → Nat} {w : Nat} (h : zfit n w m = some m') : ∀ j, (j < 34 ∨ 52 ≤ j) → m' j = m j := zfits_o _ _ m m' h
theorem zlf_len (r c : Nat) : ∀ (m k : Nat), (zlf r c m k).length ≤ m
  | 0, _ => Nat.le_refl _
  | m + 1, k => by
    have := zlf_len r c m (k + 1)
    unfold zlf
    split
    · simp only [List.length_cons]; omega
    · omega
theorem zdf_le {n m : Nat → Nat} : ∀ l : List Nat, zdf n m l ≤ l.length
  | [] => Nat.le_refl _
  | k :: l => by
    have := zdf_le (n := n) (m := m) l
    simp only [zdf, List.length_cons]
    split <;> omega
theorem zdf_9 {n m : Nat → Nat} {r c : Nat} : zdf n m (zl r c 0) ≤ 9 := Nat.le_trans (zdf_le _) (zlf_len r c 9 0)
set_option maxHeartbeats 2000000 in
set_option maxRecDepth 20000 in
theorem c_X9_feed {lay : List zL} {I : zI} {J : zJ} {S : zS} (hC : kC lay) (hV : vC I J S) {c : Int32} : zMet lay MX9_feed 3 [.ref 0, .int c] I J (fun r I' J' => zPC I J (ffeed S c) r I' J') := by
  refine zMet_of (t := MX9_feed) (ls := [.ref 0, .int c]) (by decide +kernel) (Nat.le_of_ble_eq_true rfl) rfl ?_
  obtain ⟨c0, ⟨cP, cG⟩, ⟨cX, cQ, cR⟩, ⟨cS, cB, cD⟩, cf1, cf2, cf3, cU⟩ := id hC
  have p0 : lay[1]? = some (.inl (2, [4, 8, 13, 16, 19])) := cP.1
  have s0 : kS lay 2 := cP.2.1
  obtain ⟨s1, s2, s3, s4⟩ := id s0
  have t0 : kT lay 6 := cP.2.2.1
  obtain ⟨t1, t2, t3, t4, t5⟩ := id t0
  have n5 : kN lay 11 5 := cP.2.2.2.1
  have n8 : kN lay 14 8 := cP.2.2.2.2.1
  have m8 : kN lay 17 8 := cP.2.2.2.2.2
  have w0 : vS I 2 S.n := hV.1.1.1
  have w1 : vT I J 6 S.n := hV.1.1.2.1
  have w5 : vN I 11 5 (S.n 4) (fun k => S.n (52 + k) / 100) (fun k => S.n (52 + k) % 100) := hV.1.1.2.2.1
  have w8 : vN I 14 8 (S.n 5) (fun k => S.n (57 + k) / 100) (fun k => S.n (57 + k) % 100) := hV.1.1.2.2.2.1
  have x8 : vN I 17 8 (S.n 6) (fun k => S.n (65 + k) / 100) (fun k => S.n (65 + k) % 100) := hV.1.1.2.2.2.2
  obtain ⟨v0, v1, v2, v3, v4, v5⟩ := id w0
  obtain ⟨y0, y1, y2⟩ := id w1
  have hb := hV.1.2
  have hB := hb.1
  have hT := hb.2.1
  obtain ⟨b1, b2, b3, b4, b5, b6, b7, b8⟩ := id hB
  have ox := cX.1
  have oq := cQ.1
  have ow := cR.1
  have od := cD.1
  have oe := cB.1
  have of1 := cS.1
  have of2 := cS.2.1
  have ou := cU.1
  have og := cG.1
  have on5 := n5.1
  have on8 := n8.1
  have om8 := m8.1
  have ov := cR.2.1.1
  have z1 := cf1
  have z2 := cf2
  have z3 := cf3
  unfold kF at z1 z2 z3
  obtain ⟨q7a, q7b, q7c, q7d⟩ := id hV.2.2.2.1
  refine z_iload_n (pc := 0) dX9_feed_0 rfl rfl ?_
  first | refine z_if_ltN (pc := 1) (tgt := 10) (by with_reducible rfl) dX9_feed_1 (by decide) (by omega) (fun hb1 => ?_) (fun hb1 => ?_) | refine z_if_lt (pc := 1) (tgt := 10) dX9_feed_1 (by decide) (fun hb1 => ?_) (fun hb1 => ?_)
  · skip
    refine z_bipush (pc := 10) (v := -2) dX9_feed_10 (by decide) ?_
    refine z_iret (pc := 12) dX9_feed_12 rfl ?_
    first
      | exact zPC_same hV (by rw [ffeed, zR_n (isR_1 (by decide) hb1)])
      | exact zPC_same hV (by rw [ffeed, zR_n (isR_2 (by decide) (Int32.not_le.mp hb7))])
      | exact zPC_same hV (by rw [ffeed, zR_y (by decide) hx]; exact if_pos hp)
      | (have e : ffeed S (nI x) = (.int (nI (S.len + 1)), S.upX (S.len + 1) (zset1 S.tx S.len x)) := by
           rw [ffeed, zR_y (by decide) hx]; exact if_neg (by omega)
         rw [e]
         refine ⟨rfl, vC_text hV (fun y q1 q2 => by rw [zup_o q1, zup_o q2]) ⟨zup_s _ _ _ _, by omega, fun k hk => ?_, fun k hk => ?_⟩, fun y hy => by rw [zup_o (by omega), zup_o (by omega)], fun _ _ => rfl⟩
         · rw [zup_o (by omega)]
           by_cases q : k = S.len
           · rw [q, zset1_s]; exact zup_s _ _ _ _
           · rw [zup_n _ _ (by omega), zset1_o q]; exact q7c k (by omega)
         · by_cases q : k = S.len
           · rw [q, zset1_s]; exact hx
           · rw [zset1_o q]; exact q7d k (by omega))
      | fail
  · skip
    refine z_iload_n (pc := 4) dX9_feed_4 rfl rfl ?_
    refine z_bipush (pc := 5) (v := nI 127) dX9_feed_5 (by decide) ?_
    first | refine z_icmp_leN (pc := 7) (tgt := 13) (by with_reducible rfl) (by with_reducible rfl) dX9_feed_7 (by decide) (by omega) (by omega) (fun hb7 => ?_) (fun hb7 => ?_) | refine z_icmp_le (pc := 7) (tgt := 13) dX9_feed_7 (by decide) (fun hb7 => ?_) (fun hb7 => ?_)
    · skip
      obtain ⟨x, rfl, hx⟩ := nI_get2 (m := 127) (by omega) hb1 (Int32.not_lt.mpr hb7)
      refine z_aload_n (pc := 13) dX9_feed_13 rfl rfl ?_
      refine z_getR (pc := 14) dX9_feed_14 f_RX9_24 (by assumption) rfl ?_
      refine z_iload_n (pc := 17) dX9_feed_17 rfl rfl ?_
      refine z_callV (pc := 18) (c_X5_append cX hV.2.2.2.1) dX9_feed_18 l_RX9_126 m_MX5_append n_MX5_append e_MX5_append rfl (by omega) (by assumption) rfl rfl (Nat.le_of_ble_eq_true rfl) ?_
      rintro _ _ _ ⟨⟨rfl, hp, rfl⟩ | ⟨rfl, hp, rfl⟩, rfl⟩
      · skip
        try dsimp only [zov, Option.toList, List.cons_append, List.nil_append]
        refine z_iret (pc := 21) dX9_feed_21 rfl ?_
        first
          | exact zPC_same hV (by rw [ffeed, zR_n (isR_1 (by decide) hb1)])
          | exact zPC_same hV (by rw [ffeed, zR_n (isR_2 (by decide) (Int32.not_le.mp hb7))])
          | exact zPC_same hV (by rw [ffeed, zR_y (by decide) hx]; exact if_pos hp)
          | (have e : ffeed S (nI x) = (.int (nI (S.len + 1)), S.upX (S.len + 1) (zset1 S.tx S.len x)) := by
               rw [ffeed, zR_y (by decide) hx]; exact if_neg (by omega)
             rw [e]
             refine ⟨rfl, vC_text hV (fun y q1 q2 => by rw [zup_o q1, zup_o q2]) ⟨zup_s _ _ _ _, by omega, fun k hk => ?_, fun k hk => ?_⟩, fun y hy => by rw [zup_o (by omega), zup_o (by omega)], fun _ _ => rfl⟩
             · rw [zup_o (by omega)]
               by_cases q : k = S.len
               · rw [q, zset1_s]; exact zup_s _ _ _ _
               · rw [zup_n _ _ (by omega), zset1_o q]; exact q7c k (by omega)
             · by_cases q : k = S.len
               · rw [q, zset1_s]; exact hx
               · rw [zset1_o q]; exact q7d k (by omega))
          | fail
      · skip
        try dsimp only [zov, Option.toList, List.cons_append, List.nil_append]
        refine z_iret (pc := 21) dX9_feed_21 rfl ?_
        first
          | exact zPC_same hV (by rw [ffeed, zR_n (isR_1 (by decide) hb1)])
          | exact zPC_same hV (by rw [ffeed, zR_n (isR_2 (by decide) (Int32.not_le.mp hb7))])
          | exact zPC_same hV (by rw [ffeed, zR_y (by decide) hx]; exact if_pos hp)
          | (have e : ffeed S (nI x) = (.int (nI (S.len + 1)), S.upX (S.len + 1) (zset1 S.tx S.len x)) := by
               rw [ffeed, zR_y (by decide) hx]; exact if_neg (by omega)
             rw [e]
             refine ⟨rfl, vC_text hV (fun y q1 q2 => by rw [zup_o q1, zup_o q2]) ⟨zup_s _ _ _ _, by omega, fun k hk => ?_, fun k hk => ?_⟩, fun y hy => by rw [zup_o (by omega), zup_o (by omega)], fun _ _ => rfl⟩
             · rw [zup_o (by omega)]
               by_cases q : k = S.len
               · rw [q, zset1_s]; exact zup_s _ _ _ _
               · rw [zup_n _ _ (by omega), zset1_o q]; exact q7c k (by omega)
             · by_cases q : k = S.len
               · rw [q, zset1_s]; exact hx
               · rw [zset1_o q]; exact q7d k (by omega))
          | fail
    · skip
      refine z_bipush (pc := 10) (v := -2) dX9_feed_10 (by decide) ?_
      refine z_iret (pc := 12) dX9_feed_12 rfl ?_
      first
        | exact zPC_same hV (by rw [ffeed, zR_n (isR_1 (by decide) hb1)])
        | exact zPC_same hV (by rw [ffeed, zR_n (isR_2 (by decide) (Int32.not_le.mp hb7))])
        | exact zPC_same hV (by rw [ffeed, zR_y (by decide) hx]; exact if_pos hp)
        | (have e : ffeed S (nI x) = (.int (nI (S.len + 1)), S.upX (S.len + 1) (zset1 S.tx S.len x)) := by
             rw [ffeed, zR_y (by decide) hx]; exact if_neg (by omega)
           rw [e]
           refine ⟨rfl, vC_text hV (fun y q1 q2 => by rw [zup_o q1, zup_o q2]) ⟨zup_s _ _ _ _, by omega, fun k hk => ?_, fun k hk => ?_⟩, fun y hy => by rw [zup_o (by omega), zup_o (by omega)], fun _ _ => rfl⟩
           · rw [zup_o (by omega)]
             by_cases q : k = S.len
             · rw [q, zset1_s]; exact zup_s _ _ _ _
             · rw [zup_n _ _ (by omega), zset1_o q]; exact q7c k (by omega)
           · by_cases q : k = S.len
             · rw [q, zset1_s]; exact hx
             · rw [zset1_o q]; exact q7d k (by omega))
        | fail
set_option maxHeartbeats 2000000 in
set_option maxRecDepth 20000 in
theorem c_X9_fit {lay : List zL} {I : zI} {J : zJ} {S : zS} (hC : kC lay) (hV : vC I J S) {w : Int32} : zMet lay MX9_fit 5 [.ref 0, .int w] I J (fun r I' J' => zPC I J (ffit S w) r I' J') := by
  refine zMet_of (t := MX9_fit) (ls := [.ref 0, .int w, .null]) (by decide +kernel) (Nat.le_of_ble_eq_true rfl) rfl ?_
  obtain ⟨c0, ⟨cP, cG⟩, ⟨cX, cQ, cR⟩, ⟨cS, cB, cD⟩, cf1, cf2, cf3, cU⟩ := id hC
  have p0 : lay[1]? = some (.inl (2, [4, 8, 13, 16, 19])) := cP.1
  have s0 : kS lay 2 := cP.2.1
  obtain ⟨s1, s2, s3, s4⟩ := id s0
  have t0 : kT lay 6 := cP.2.2.1
  obtain ⟨t1, t2, t3, t4, t5⟩ := id t0
  have n5 : kN lay 11 5 := cP.2.2.2.1
  have n8 : kN lay 14 8 := cP.2.2.2.2.1
  have m8 : kN lay 17 8 := cP.2.2.2.2.2
  have w0 : vS I 2 S.n := hV.1.1.1
  have w1 : vT I J 6 S.n := hV.1.1.2.1
  have w5 : vN I 11 5 (S.n 4) (fun k => S.n (52 + k) / 100) (fun k => S.n (52 + k) % 100) := hV.1.1.2.2.1
  have w8 : vN I 14 8 (S.n 5) (fun k => S.n (57 + k) / 100) (fun k => S.n (57 + k) % 100) := hV.1.1.2.2.2.1
  have x8 : vN I 17 8 (S.n 6) (fun k => S.n (65 + k) / 100) (fun k => S.n (65 + k) % 100) := hV.1.1.2.2.2.2
  obtain ⟨v0, v1, v2, v3, v4, v5⟩ := id w0
  obtain ⟨y0, y1, y2⟩ := id w1
  have hb := hV.1.2
  have hB := hb.1
  have hT := hb.2.1
  obtain ⟨b1, b2, b3, b4, b5, b6, b7, b8⟩ := id hB
  have ox := cX.1
  have oq := cQ.1
  have ow := cR.1
  have od := cD.1
  have oe := cB.1
  have of1 := cS.1
  have of2 := cS.2.1
  have ou := cU.1
  have og := cG.1
  have on5 := n5.1
  have on8 := n8.1
  have om8 := m8.1
  have ov := cR.2.1.1
  have z1 := cf1
  have z2 := cf2
  have z3 := cf3
  unfold kF at z1 z2 z3
  refine z_iload_n (pc := 0) dX9_fit_0 rfl rfl ?_
  first | refine z_if_ltN (pc := 1) (tgt := 9) (by with_reducible rfl) dX9_fit_1 (by decide) (by omega) (fun hb1 => ?_) (fun hb1 => ?_) | refine z_if_lt (pc := 1) (tgt := 9) dX9_fit_1 (by decide) (fun hb1 => ?_) (fun hb1 => ?_)
  · skip
    refine z_iconst (pc := 9) (v := -1) dX9_fit_9 (by decide) ?_
    refine z_iret (pc := 10) dX9_fit_10 rfl ?_
    first
      | exact zPC_same hV (by rw [ffit, zR_n (isR_1 (by decide) hb1)])
      | exact zPC_same hV (by rw [ffit, zR_n (fun ⟨a, e, ha⟩ => by subst e; exact hb6 ((nI_ltI (by omega) (by omega)).mpr (by omega)))])
      | exact zPC_same hV (by rw [ffit, zR_y (by decide) hx]; exact if_pos ⟨by exact nI_inj (by omega) (by omega) hb13, by omega⟩)
      | (have hg : ¬ (x = 2 ∧ S.n 2 = 0) := fun q => by (first | exact absurd (congrArg nI q.1) hb13 | omega)
         first
         | exact zPC_keep hV (fun y hy => zup_o (by omega)) (fun y hy => (hj2 y (by omega)).trans (hj y (by omega) (by omega))) (by rw [ffit, zR_y (by decide) hx]; dsimp only; rw [if_neg hg, hm])
         | (have ho := zfit_o hm
            refine zPC_now hV (fun y q1 q2 => ?_) (fun y q1 q2 => (hj3 y (by omega) (by omega)).trans ((hj2 y (by omega)).trans (hj y (by omega) (by omega)))) (vP_tab (vC_n hV) hu3 (fun y q1 q2 q3 => ?_) (fun k q => ho k (by omega))) (bN_of hb (bS_to hB (fun k q => ho k (by omega))) hT2 (ho _ (by omega)) (ho _ (by omega)) (fun k q => ho k (by omega))) (by rw [ffit, zR_y (by decide) hx]; dsimp only; rw [if_neg hg, hm])
            · rw [zup_o (by omega), zup_o (by omega)]
            · rw [zup_o (by omega), zup_o (by omega)])
         | fail)
      | fail
  · skip
    refine z_iload_n (pc := 4) dX9_fit_4 rfl rfl ?_
    refine z_iconst (pc := 5) (v := nI 3) dX9_fit_5 (by decide) ?_
    first | refine z_icmp_ltN (pc := 6) (tgt := 11) (by with_reducible rfl) (by with_reducible rfl) dX9_fit_6 (by decide) (by omega) (by omega) (fun hb6 => ?_) (fun hb6 => ?_) | refine z_icmp_lt (pc := 6) (tgt := 11) dX9_fit_6 (by decide) (fun hb6 => ?_) (fun hb6 => ?_)
    · skip
      obtain ⟨x, rfl, hx⟩ := nI_get (m := 3) (by omega) hb1 (Int32.not_le.mpr hb6)
      have hx : x ≤ 2 := (by omega)
      refine z_iload_n (pc := 11) dX9_fit_11 rfl rfl ?_
      refine z_iconst (pc := 12) (v := nI 2) dX9_fit_12 (by decide) ?_
      refine z_icmp_ne (pc := 13) (tgt := 32) dX9_fit_13 (by decide) (fun hb13 => ?_) (fun hb13 => ?_)
      · skip
        refine z_aload_n (pc := 32) dX9_fit_32 rfl rfl ?_
        refine z_getR (pc := 33) dX9_fit_33 f_RX9_56 (by assumption) rfl ?_
        refine z_aload_n (pc := 36) dX9_fit_36 rfl rfl ?_
        refine z_getR (pc := 37) dX9_fit_37 f_RX9_12 (by assumption) rfl ?_
        refine z_getR (pc := 40) dX9_fit_40 f_RX9_102 (by assumption) rfl ?_
        refine z_callV (pc := 43) (c_X7_copyFrom cD t0 w1 (by omega)) dX9_fit_43 l_RX9_174 m_MX7_copyFrom n_MX7_copyFrom e_MX7_copyFrom rfl (by omega) (by assumption) rfl rfl (Nat.le_of_ble_eq_true rfl) ?_
        rintro _ _ _ (⟨rfl, rfl, ⟨hu, hj⟩⟩)
        try dsimp only [zov, Option.toList, List.cons_append, List.nil_append]
        refine z_aload_n (pc := 46) dX9_fit_46 rfl rfl ?_
        refine z_getR (pc := 47) dX9_fit_47 f_RX9_56 (by assumption) rfl ?_
        refine z_aload_n (pc := 50) dX9_fit_50 rfl rfl ?_
        refine z_getR (pc := 51) dX9_fit_51 f_RX9_12 (by assumption) rfl ?_
        refine z_getR (pc := 54) dX9_fit_54 f_RX9_83 (by assumption) rfl ?_
        refine z_iload_n (pc := 57) dX9_fit_57 rfl rfl ?_
        refine z_callV (pc := 58) (c_X7_isFitted s0 (vS_to w0 (zup_o (by omega)) (zup_o (by omega)) (zup_o (by omega)) (zup_o (by omega))) hB cD hu hT hx) dX9_fit_58 l_RX9_178 m_MX7_isFitted n_MX7_isFitted e_MX7_isFitted rfl (by omega) (by assumption) rfl rfl (Nat.le_of_ble_eq_true rfl) ?_
        rintro _ _ _ ⟨⟨rfl, m, hm, hu2, hT2⟩ | ⟨rfl, hm⟩, rfl, hj2⟩
        · skip
          try dsimp only [zov, Option.toList, List.cons_append, List.nil_append]
          first | refine z_if_neN (pc := 61) (tgt := 67) (by with_reducible rfl) dX9_fit_61 (by decide) (by omega) (fun hb61 => ?_) (fun hb61 => absurd hb61 (by decide)) | refine z_if_ne (pc := 61) (tgt := 67) dX9_fit_61 (by decide) (fun hb61 => ?_) (fun hb61 => absurd hb61 (by decide))
          · skip
            refine z_aload_n (pc := 67) dX9_fit_67 rfl rfl ?_
            refine z_getR (pc := 68) dX9_fit_68 f_RX9_56 (by assumption) rfl ?_
            refine z_aload_n (pc := 71) dX9_fit_71 rfl rfl ?_
            refine z_getR (pc := 72) dX9_fit_72 f_RX9_12 (by assumption) rfl ?_
            refine z_getR (pc := 75) dX9_fit_75 f_RX9_83 (by assumption) rfl ?_
            refine z_aload_n (pc := 78) dX9_fit_78 rfl rfl ?_
            refine z_getR (pc := 79) dX9_fit_79 f_RX9_12 (by assumption) rfl ?_
            refine z_getR (pc := 82) dX9_fit_82 f_RX9_102 (by assumption) rfl ?_
            refine z_callV (pc := 85) (c_X7_countOtherwise s0 (vS_to w0 (zup_o (by omega)) (zup_o (by omega)) (zup_o (by omega)) (zup_o (by omega))) hB cD hu2 hT2 t0 (vT_to w1 (zup_o (by omega)) ((hj2 _ (by omega)).trans (hj _ (by omega) (by omega))) ((hj2 _ (by omega)).trans (hj _ (by omega) (by omega)))) hT) dX9_fit_85 l_RX9_182 m_MX7_countOtherwise n_MX7_countOtherwise e_MX7_countOtherwise rfl (by omega) (by assumption) rfl rfl (Nat.le_of_ble_eq_true rfl) ?_
            rintro _ _ _ (⟨rfl, rfl, rfl⟩)
            try dsimp only [zov, Option.toList, List.cons_append, List.nil_append]
            refine z_istore_n (pc := 88) dX9_fit_88 rfl (by decide) rfl ?_
            try dsimp only [zst1, zst2, zk]
            refine z_aload_n (pc := 89) dX9_fit_89 rfl rfl ?_
            refine z_getR (pc := 90) dX9_fit_90 f_RX9_12 (by assumption) rfl ?_
            refine z_getR (pc := 93) dX9_fit_93 f_RX9_102 (by assumption) rfl ?_
            refine z_aload_n (pc := 96) dX9_fit_96 rfl rfl ?_
            refine z_getR (pc := 97) dX9_fit_97 f_RX9_56 (by assumption) rfl ?_
            refine z_callV (pc := 100) (c_X7_copyFrom t0 cD hu2 (by omega)) dX9_fit_100 l_RX9_174 m_MX7_copyFrom n_MX7_copyFrom e_MX7_copyFrom rfl (by omega) (by assumption) rfl rfl (Nat.le_of_ble_eq_true rfl) ?_
            rintro _ _ _ (⟨rfl, rfl, ⟨hu3, hj3⟩⟩)
            try dsimp only [zov, Option.toList, List.cons_append, List.nil_append]
            refine z_iload_n (pc := 103) dX9_fit_103 rfl rfl ?_
            refine z_iret (pc := 104) dX9_fit_104 rfl ?_
            first
              | exact zPC_same hV (by rw [ffit, zR_n (isR_1 (by decide) hb1)])
              | exact zPC_same hV (by rw [ffit, zR_n (fun ⟨a, e, ha⟩ => by subst e; exact hb6 ((nI_ltI (by omega) (by omega)).mpr (by omega)))])
              | exact zPC_same hV (by rw [ffit, zR_y (by decide) hx]; exact if_pos ⟨by exact nI_inj (by omega) (by omega) hb13, by omega⟩)
              | (have hg : ¬ (x = 2 ∧ S.n 2 = 0) := fun q => by (first | exact absurd (congrArg nI q.1) hb13 | omega)
                 first
                 | exact zPC_keep hV (fun y hy => zup_o (by omega)) (fun y hy => (hj2 y (by omega)).trans (hj y (by omega) (by omega))) (by rw [ffit, zR_y (by decide) hx]; dsimp only; rw [if_neg hg, hm])
                 | (have ho := zfit_o hm
                    refine zPC_now hV (fun y q1 q2 => ?_) (fun y q1 q2 => (hj3 y (by omega) (by omega)).trans ((hj2 y (by omega)).trans (hj y (by omega) (by omega)))) (vP_tab (vC_n hV) hu3 (fun y q1 q2 q3 => ?_) (fun k q => ho k (by omega))) (bN_of hb (bS_to hB (fun k q => ho k (by omega))) hT2 (ho _ (by omega)) (ho _ (by omega)) (fun k q => ho k (by omega))) (by rw [ffit, zR_y (by decide) hx]; dsimp only; rw [if_neg hg, hm])
                    · rw [zup_o (by omega), zup_o (by omega)]
                    · rw [zup_o (by omega), zup_o (by omega)])
                 | fail)
              | fail
        · skip
          try dsimp only [zov, Option.toList, List.cons_append, List.nil_append]
          first | refine z_if_neN (pc := 61) (tgt := 67) (by with_reducible rfl) dX9_fit_61 (by decide) (by omega) (fun hb61 => absurd hb61 (by decide)) (fun hb61 => ?_) | refine z_if_ne (pc := 61) (tgt := 67) dX9_fit_61 (by decide) (fun hb61 => absurd hb61 (by decide)) (fun hb61 => ?_)
          · skip
            refine z_bipush (pc := 64) (v := -6) dX9_fit_64 (by decide) ?_
            refine z_iret (pc := 66) dX9_fit_66 rfl ?_
            first
              | exact zPC_same hV (by rw [ffit, zR_n (isR_1 (by decide) hb1)])
              | exact zPC_same hV (by rw [ffit, zR_n (fun ⟨a, e, ha⟩ => by subst e; exact hb6 ((nI_ltI (by omega) (by omega)).mpr (by omega)))])
              | exact zPC_same hV (by rw [ffit, zR_y (by decide) hx]; exact if_pos ⟨by exact nI_inj (by omega) (by omega) hb13, by omega⟩)
              | (have hg : ¬ (x = 2 ∧ S.n 2 = 0) := fun q => by (first | exact absurd (congrArg nI q.1) hb13 | omega)
                 first
                 | exact zPC_keep hV (fun y hy => zup_o (by omega)) (fun y hy => (hj2 y (by omega)).trans (hj y (by omega) (by omega))) (by rw [ffit, zR_y (by decide) hx]; dsimp only; rw [if_neg hg, hm])
                 | (have ho := zfit_o hm
                    refine zPC_now hV (fun y q1 q2 => ?_) (fun y q1 q2 => (hj3 y (by omega) (by omega)).trans ((hj2 y (by omega)).trans (hj y (by omega) (by omega)))) (vP_tab (vC_n hV) hu3 (fun y q1 q2 q3 => ?_) (fun k q => ho k (by omega))) (bN_of hb (bS_to hB (fun k q => ho k (by omega))) hT2 (ho _ (by omega)) (ho _ (by omega)) (fun k q => ho k (by omega))) (by rw [ffit, zR_y (by decide) hx]; dsimp only; rw [if_neg hg, hm])
                    · rw [zup_o (by omega), zup_o (by omega)]
                    · rw [zup_o (by omega), zup_o (by omega)])
                 | fail)
              | fail
      · skip
        refine z_aload_n (pc := 16) dX9_fit_16 rfl rfl ?_
        refine z_getR (pc := 17) dX9_fit_17 f_RX9_12 (by assumption) rfl ?_
        refine z_getR (pc := 20) dX9_fit_20 f_RX9_83 (by assumption) rfl ?_
        refine z_getIv (pc := 23) dX9_fit_23 f_RX9_118 (by assumption) rfl (by first | assumption | exact v3 _ (by omega) | exact v4 _ (by omega) | exact v5 _ (by omega) | exact y0 _ (by omega) | exact y1 _ (by omega) | rfl) ?_
        first | refine z_if_neN (pc := 26) (tgt := 32) (by with_reducible rfl) dX9_fit_26 (by decide) (by omega) (fun hb26 => ?_) (fun hb26 => ?_) | refine z_if_ne (pc := 26) (tgt := 32) dX9_fit_26 (by decide) (fun hb26 => ?_) (fun hb26 => ?_)
        · skip
          refine z_aload_n (pc := 32) dX9_fit_32 rfl rfl ?_
          refine z_getR (pc := 33) dX9_fit_33 f_RX9_56 (by assumption) rfl ?_
          refine z_aload_n (pc := 36) dX9_fit_36 rfl rfl ?_
          refine z_getR (pc := 37) dX9_fit_37 f_RX9_12 (by assumption) rfl ?_
          refine z_getR (pc := 40) dX9_fit_40 f_RX9_102 (by assumption) rfl ?_
          refine z_callV (pc := 43) (c_X7_copyFrom cD t0 w1 (by omega)) dX9_fit_43 l_RX9_174 m_MX7_copyFrom n_MX7_copyFrom e_MX7_copyFrom rfl (by omega) (by assumption) rfl rfl (Nat.le_of_ble_eq_true rfl) ?_
          rintro _ _ _ (⟨rfl, rfl, ⟨hu, hj⟩⟩)
          try dsimp only [zov, Option.toList, List.cons_append, List.nil_append]
          refine z_aload_n (pc := 46) dX9_fit_46 rfl rfl ?_
          refine z_getR (pc := 47) dX9_fit_47 f_RX9_56 (by assumption) rfl ?_
          refine z_aload_n (pc := 50) dX9_fit_50 rfl rfl ?_
          refine z_getR (pc := 51) dX9_fit_51 f_RX9_12 (by assumption) rfl ?_
          refine z_getR (pc := 54) dX9_fit_54 f_RX9_83 (by assumption) rfl ?_
          refine z_iload_n (pc := 57) dX9_fit_57 rfl rfl ?_
          refine z_callV (pc := 58) (c_X7_isFitted s0 (vS_to w0 (zup_o (by omega)) (zup_o (by omega)) (zup_o (by omega)) (zup_o (by omega))) hB cD hu hT hx) dX9_fit_58 l_RX9_178 m_MX7_isFitted n_MX7_isFitted e_MX7_isFitted rfl (by omega) (by assumption) rfl rfl (Nat.le_of_ble_eq_true rfl) ?_
          rintro _ _ _ ⟨⟨rfl, m, hm, hu2, hT2⟩ | ⟨rfl, hm⟩, rfl, hj2⟩
          · skip
            try dsimp only [zov, Option.toList, List.cons_append, List.nil_append]
            first | refine z_if_neN (pc := 61) (tgt := 67) (by with_reducible rfl) dX9_fit_61 (by decide) (by omega) (fun hb61 => ?_) (fun hb61 => absurd hb61 (by decide)) | refine z_if_ne (pc := 61) (tgt := 67) dX9_fit_61 (by decide) (fun hb61 => ?_) (fun hb61 => absurd hb61 (by decide))
            · skip
              refine z_aload_n (pc := 67) dX9_fit_67 rfl rfl ?_
              refine z_getR (pc := 68) dX9_fit_68 f_RX9_56 (by assumption) rfl ?_
              refine z_aload_n (pc := 71) dX9_fit_71 rfl rfl ?_
              refine z_getR (pc := 72) dX9_fit_72 f_RX9_12 (by assumption) rfl ?_
              refine z_getR (pc := 75) dX9_fit_75 f_RX9_83 (by assumption) rfl ?_
              refine z_aload_n (pc := 78) dX9_fit_78 rfl rfl ?_
              refine z_getR (pc := 79) dX9_fit_79 f_RX9_12 (by assumption) rfl ?_
              refine z_getR (pc := 82) dX9_fit_82 f_RX9_102 (by assumption) rfl ?_
              refine z_callV (pc := 85) (c_X7_countOtherwise s0 (vS_to w0 (zup_o (by omega)) (zup_o (by omega)) (zup_o (by omega)) (zup_o (by omega))) hB cD hu2 hT2 t0 (vT_to w1 (zup_o (by omega)) ((hj2 _ (by omega)).trans (hj _ (by omega) (by omega))) ((hj2 _ (by omega)).trans (hj _ (by omega) (by omega)))) hT) dX9_fit_85 l_RX9_182 m_MX7_countOtherwise n_MX7_countOtherwise e_MX7_countOtherwise rfl (by omega) (by assumption) rfl rfl (Nat.le_of_ble_eq_true rfl) ?_
              rintro _ _ _ (⟨rfl, rfl, rfl⟩)
              try dsimp only [zov, Option.toList, List.cons_append, List.nil_append]
              refine z_istore_n (pc := 88) dX9_fit_88 rfl (by decide) rfl ?_
              try dsimp only [zst1, zst2, zk]
              refine z_aload_n (pc := 89) dX9_fit_89 rfl rfl ?_
              refine z_getR (pc := 90) dX9_fit_90 f_RX9_12 (by assumption) rfl ?_
              refine z_getR (pc := 93) dX9_fit_93 f_RX9_102 (by assumption) rfl ?_
              refine z_aload_n (pc := 96) dX9_fit_96 rfl rfl ?_
              refine z_getR (pc := 97) dX9_fit_97 f_RX9_56 (by assumption) rfl ?_
              refine z_callV (pc := 100) (c_X7_copyFrom t0 cD hu2 (by omega)) dX9_fit_100 l_RX9_174 m_MX7_copyFrom n_MX7_copyFrom e_MX7_copyFrom rfl (by omega) (by assumption) rfl rfl (Nat.le_of_ble_eq_true rfl) ?_
              rintro _ _ _ (⟨rfl, rfl, ⟨hu3, hj3⟩⟩)
              try dsimp only [zov, Option.toList, List.cons_append, List.nil_append]
              refine z_iload_n (pc := 103) dX9_fit_103 rfl rfl ?_
              refine z_iret (pc := 104) dX9_fit_104 rfl ?_
              first
                | exact zPC_same hV (by rw [ffit, zR_n (isR_1 (by decide) hb1)])
                | exact zPC_same hV (by rw [ffit, zR_n (fun ⟨a, e, ha⟩ => by subst e; exact hb6 ((nI_ltI (by omega) (by omega)).mpr (by omega)))])
                | exact zPC_same hV (by rw [ffit, zR_y (by decide) hx]; exact if_pos ⟨by exact nI_inj (by omega) (by omega) hb13, by omega⟩)
                | (have hg : ¬ (x = 2 ∧ S.n 2 = 0) := fun q => by (first | exact absurd (congrArg nI q.1) hb13 | omega)
                   first
                   | exact zPC_keep hV (fun y hy => zup_o (by omega)) (fun y hy => (hj2 y (by omega)).trans (hj y (by omega) (by omega))) (by rw [ffit, zR_y (by decide) hx]; dsimp only; rw [if_neg hg, hm])
                   | (have ho := zfit_o hm
                      refine zPC_now hV (fun y q1 q2 => ?_) (fun y q1 q2 => (hj3 y (by omega) (by omega)).trans ((hj2 y (by omega)).trans (hj y (by omega) (by omega)))) (vP_tab (vC_n hV) hu3 (fun y q1 q2 q3 => ?_) (fun k q => ho k (by omega))) (bN_of hb (bS_to hB (fun k q => ho k (by omega))) hT2 (ho _ (by omega)) (ho _ (by omega)) (fun k q => ho k (by omega))) (by rw [ffit, zR_y (by decide) hx]; dsimp only; rw [if_neg hg, hm])
                      · rw [zup_o (by omega), zup_o (by omega)]
                      · rw [zup_o (by omega), zup_o (by omega)])
                   | fail)
                | fail
          · skip
            try dsimp only [zov, Option.toList, List.cons_append, List.nil_append]
            first | refine z_if_neN (pc := 61) (tgt := 67) (by with_reducible rfl) dX9_fit_61 (by decide) (by omega) (fun hb61 => absurd hb61 (by decide)) (fun hb61 => ?_) | refine z_if_ne (pc := 61) (tgt := 67) dX9_fit_61 (by decide) (fun hb61 => absurd hb61 (by decide)) (fun hb61 => ?_)
            · skip
              refine z_bipush (pc := 64) (v := -6) dX9_fit_64 (by decide) ?_
              refine z_iret (pc := 66) dX9_fit_66 rfl ?_
              first
                | exact zPC_same hV (by rw [ffit, zR_n (isR_1 (by decide) hb1)])
                | exact zPC_same hV (by rw [ffit, zR_n (fun ⟨a, e, ha⟩ => by subst e; exact hb6 ((nI_ltI (by omega) (by omega)).mpr (by omega)))])
                | exact zPC_same hV (by rw [ffit, zR_y (by decide) hx]; exact if_pos ⟨by exact nI_inj (by omega) (by omega) hb13, by omega⟩)
                | (have hg : ¬ (x = 2 ∧ S.n 2 = 0) := fun q => by (first | exact absurd (congrArg nI q.1) hb13 | omega)
                   first
                   | exact zPC_keep hV (fun y hy => zup_o (by omega)) (fun y hy => (hj2 y (by omega)).trans (hj y (by omega) (by omega))) (by rw [ffit, zR_y (by decide) hx]; dsimp only; rw [if_neg hg, hm])
                   | (have ho := zfit_o hm
                      refine zPC_now hV (fun y q1 q2 => ?_) (fun y q1 q2 => (hj3 y (by omega) (by omega)).trans ((hj2 y (by omega)).trans (hj y (by omega) (by omega)))) (vP_tab (vC_n hV) hu3 (fun y q1 q2 q3 => ?_) (fun k q => ho k (by omega))) (bN_of hb (bS_to hB (fun k q => ho k (by omega))) hT2 (ho _ (by omega)) (ho _ (by omega)) (fun k q => ho k (by omega))) (by rw [ffit, zR_y (by decide) hx]; dsimp only; rw [if_neg hg, hm])
                      · rw [zup_o (by omega), zup_o (by omega)]
                      · rw [zup_o (by omega), zup_o (by omega)])
                   | fail)
                | fail
        · skip
          refine z_bipush (pc := 29) (v := -3) dX9_fit_29 (by decide) ?_
          refine z_iret (pc := 31) dX9_fit_31 rfl ?_
          first
            | exact zPC_same hV (by rw [ffit, zR_n (isR_1 (by decide) hb1)])
            | exact zPC_same hV (by rw [ffit, zR_n (fun ⟨a, e, ha⟩ => by subst e; exact hb6 ((nI_ltI (by omega) (by omega)).mpr (by omega)))])
            | exact zPC_same hV (by rw [ffit, zR_y (by decide) hx]; exact if_pos ⟨by exact nI_inj (by omega) (by omega) hb13, by omega⟩)
            | (have hg : ¬ (x = 2 ∧ S.n 2 = 0) := fun q => by (first | exact absurd (congrArg nI q.1) hb13 | omega)
               first
               | exact zPC_keep hV (fun y hy => zup_o (by omega)) (fun y hy => (hj2 y (by omega)).trans (hj y (by omega) (by omega))) (by rw [ffit, zR_y (by decide) hx]; dsimp only; rw [if_neg hg, hm])
               | (have ho := zfit_o hm
                  refine zPC_now hV (fun y q1 q2 => ?_) (fun y q1 q2 => (hj3 y (by omega) (by omega)).trans ((hj2 y (by omega)).trans (hj y (by omega) (by omega)))) (vP_tab (vC_n hV) hu3 (fun y q1 q2 q3 => ?_) (fun k q => ho k (by omega))) (bN_of hb (bS_to hB (fun k q => ho k (by omega))) hT2 (ho _ (by omega)) (ho _ (by omega)) (fun k q => ho k (by omega))) (by rw [ffit, zR_y (by decide) hx]; dsimp only; rw [if_neg hg, hm])
                  · rw [zup_o (by omega), zup_o (by omega)]
                  · rw [zup_o (by omega), zup_o (by omega)])
               | fail)
            | fail
    · skip
      refine z_iconst (pc := 9) (v := -1) dX9_fit_9 (by decide) ?_
      refine z_iret (pc := 10) dX9_fit_10 rfl ?_
      first
        | exact zPC_same hV (by rw [ffit, zR_n (isR_1 (by decide) hb1)])
        | exact zPC_same hV (by rw [ffit, zR_n (fun ⟨a, e, ha⟩ => by subst e; exact hb6 ((nI_ltI (by omega) (by omega)).mpr (by omega)))])
        | exact zPC_same hV (by rw [ffit, zR_y (by decide) hx]; exact if_pos ⟨by exact nI_inj (by omega) (by omega) hb13, by omega⟩)
        | (have hg : ¬ (x = 2 ∧ S.n 2 = 0) := fun q => by (first | exact absurd (congrArg nI q.1) hb13 | omega)
           first
           | exact zPC_keep hV (fun y hy => zup_o (by omega)) (fun y hy => (hj2 y (by omega)).trans (hj y (by omega) (by omega))) (by rw [ffit, zR_y (by decide) hx]; dsimp only; rw [if_neg hg, hm])
           | (have ho := zfit_o hm
              refine zPC_now hV (fun y q1 q2 => ?_) (fun y q1 q2 => (hj3 y (by omega) (by omega)).trans ((hj2 y (by omega)).trans (hj y (by omega) (by omega)))) (vP_tab (vC_n hV) hu3 (fun y q1 q2 q3 => ?_) (fun k q => ho k (by omega))) (bN_of hb (bS_to hB (fun k q => ho k (by omega))) hT2 (ho _ (by omega)) (ho _ (by omega)) (fun k q => ho k (by omega))) (by rw [ffit, zR_y (by decide) hx]; dsimp only; rw [if_neg hg, hm])
              · rw [zup_o (by omega), zup_o (by omega)]
              · rw [zup_o (by omega), zup_o (by omega)])
           | fail)
        | fail
theorem zrd_1 {n : Nat → Nat} (h : zfit n 0 n = none) : zrd n = none := by unfold zrd; rw [h]
theorem zrd_2 {n a : Nat → Nat} (h : zfit n 0 n = some a) (h2 : zfit n 1 a = none) : zrd n = none := by unfold zrd; rw [h]; dsimp only; rw [h2]
theorem zrd_3 {n a b : Nat → Nat} (h : zfit n 0 n = some a) (h2 : zfit n 1 a = some b) (h3 : ¬ n 2 = 0) (h4 : zfit n 2 b = none) : zrd n = none := by unfold zrd; rw [h]; dsimp only; rw [h2]; dsimp only; rw [if_neg h3, h4]
theorem zrd_4 {n a b c : Nat → Nat} (h : zfit n 0 n = some a) (h2 : zfit n 1 a = some b) (h4 : (if n 2 = 0 then some b else zfit n 2 b) = some c) (h5 : zdf c n (zl (n 0) (n 1) 0) = 0) : zrd n = none := by unfold zrd; rw [h]; dsimp only; rw [h2]; dsimp only; rw [h4]; exact if_pos h5
theorem zrd_5 {n a b c : Nat → Nat} (h : zfit n 0 n = some a) (h2 : zfit n 1 a = some b) (h4 : (if n 2 = 0 then some b else zfit n 2 b) = some c) (h5 : ¬ zdf c n (zl (n 0) (n 1) 0) = 0) : zrd n = some (zset1 c 3 (n 3 + 1)) := by unfold zrd; rw [h]; dsimp only; rw [h2]; dsimp only; rw [h4]; exact if_neg h5
theorem zrd_o {n n' : Nat → Nat} (h : zrd n = some n') : ∀ j, j ≠ 3 → (j < 34 ∨ 52 ≤ j) → n' j = n j := by
  unfold zrd at h
  cases e1 : zfit n 0 n with
  | none => rw [e1] at h; cases h
  | some a =>
    rw [e1] at h
    dsimp only at h
    cases e2 : zfit n 1 a with
    | none => rw [e2] at h; cases h
    | some b =>
      rw [e2] at h
      dsimp only at h
      intro j h3 hj
      cases e3 : (if n 2 = 0 then some b else zfit n 2 b) with
      | none => rw [e3] at h; cases h
      | some c =>
        rw [e3] at h
        dsimp only at h
        split at h
        · cases h
        · cases h
          rw [zset1_o h3]
          have hc : c j = b j := by
            split at e3
            · cases e3; rfl
            · exact zfit_o e3 j hj
          rw [hc, zfit_o e2 j hj, zfit_o e1 j hj]
set_option maxHeartbeats 2000000 in
set_option maxRecDepth 20000 in
theorem c_X9_isRoundDone {lay : List zL} {I : zI} {J : zJ} {s t : Nat} {n : Nat → Nat} (hC : kC lay) (s0 : kS lay s) (w0 : vS I s n) (hB : bS n) (t0 : kT lay t) (w1 : vT I J t n) (hT : bT n) (hs : s + 3 < 48 ∨ 52 < s) (ht : t + 4 < 48 ∨ 52 < t) (hst : s + 3 < t ∨ t + 4 < s) : zMet lay MX9_isRoundDone 4 [.ref 0, .ref s, .ref t] I J (fun r I' J' => ((r = .int (nI 1) ∧ ∃ n', zrd n = some n' ∧ vT I' J' t n' ∧ bT n') ∨ (r = .int (nI 0) ∧ zrd n = none ∧ vT I' J' t n)) ∧ (∀ x, x ≠ t → x ≠ 48 → I' x = I x) ∧ ∀ x, x ≠ t + 1 → x ≠ t + 2 → (x < 48 ∨ 52 < x) → J' x = J x) := by
  refine zMet_of (t := MX9_isRoundDone) (ls := [.ref 0, .ref s, .ref t]) (by decide +kernel) (Nat.le_of_ble_eq_true rfl) rfl ?_
  obtain ⟨c0, ⟨cP, cG⟩, ⟨cX, cQ, cR⟩, ⟨cS, cB, cD⟩, cf1, cf2, cf3, cU⟩ := id hC
  have od := cD.1
  obtain ⟨s1, s2, s3, s4⟩ := id s0
  obtain ⟨t1, t2, t3, t4, t5⟩ := id t0
  obtain ⟨v0, v1, v2, v3, v4, v5⟩ := id w0
  obtain ⟨y0, y1, y2⟩ := id w1
  obtain ⟨b1, b2, b3, b4, b5, b6, b7, b8⟩ := id hB
  refine z_aload_n (pc := 0) dX9_isRoundDone_0 rfl rfl ?_
  refine z_getR (pc := 1) dX9_isRoundDone_1 f_RX9_56 (by assumption) rfl ?_
  refine z_aload_n (pc := 4) dX9_isRoundDone_4 rfl rfl ?_
  refine z_callV (pc := 5) (c_X7_copyFrom cD t0 w1 (by omega)) dX9_isRoundDone_5 l_RX9_174 m_MX7_copyFrom n_MX7_copyFrom e_MX7_copyFrom rfl (by omega) (by assumption) rfl rfl (Nat.le_of_ble_eq_true rfl) ?_
  rintro _ _ _ (⟨rfl, rfl, ⟨hu, hj⟩⟩)
  try dsimp only [zov, Option.toList, List.cons_append, List.nil_append]
  refine z_aload_n (pc := 8) dX9_isRoundDone_8 rfl rfl ?_
  refine z_getR (pc := 9) dX9_isRoundDone_9 f_RX9_56 (by assumption) rfl ?_
  refine z_aload_n (pc := 12) dX9_isRoundDone_12 rfl rfl ?_
  refine z_iconst (pc := 13) (v := nI 0) dX9_isRoundDone_13 (by decide) ?_
  refine z_callV (pc := 14) (c_X7_isFitted s0 (vS_to w0 (zup_o (by omega)) (zup_o (by omega)) (zup_o (by omega)) (zup_o (by omega))) hB cD hu hT (w := 0) (by omega)) dX9_isRoundDone_14 l_RX9_178 m_MX7_isFitted n_MX7_isFitted e_MX7_isFitted rfl (by omega) (by assumption) rfl rfl (Nat.le_of_ble_eq_true rfl) ?_
  rintro _ _ _ ⟨⟨rfl, m1, hm1, hu1, hT1⟩ | ⟨rfl, hm1⟩, rfl, hj1⟩
  · skip
    try dsimp only [zov, Option.toList, List.cons_append, List.nil_append]
    first | refine z_if_eqN (pc := 17) (tgt := 32) (by with_reducible rfl) dX9_isRoundDone_17 (by decide) (by omega) (fun hb17 => absurd hb17 (by decide)) (fun hb17 => ?_) | refine z_if_eq (pc := 17) (tgt := 32) dX9_isRoundDone_17 (by decide) (fun hb17 => absurd hb17 (by decide)) (fun hb17 => ?_)
    · skip
      refine z_aload_n (pc := 20) dX9_isRoundDone_20 rfl rfl ?_
      refine z_getR (pc := 21) dX9_isRoundDone_21 f_RX9_56 (by assumption) rfl ?_
      refine z_aload_n (pc := 24) dX9_isRoundDone_24 rfl rfl ?_
      refine z_iconst (pc := 25) (v := nI 1) dX9_isRoundDone_25 (by decide) ?_
      refine z_callV (pc := 26) (c_X7_isFitted s0 (vS_to w0 (zup_o (by omega)) (zup_o (by omega)) (zup_o (by omega)) (zup_o (by omega))) hB cD hu1 hT1 (w := 1) (by omega)) dX9_isRoundDone_26 l_RX9_178 m_MX7_isFitted n_MX7_isFitted e_MX7_isFitted rfl (by omega) (by assumption) rfl rfl (Nat.le_of_ble_eq_true rfl) ?_
      rintro _ _ _ ⟨⟨rfl, m2, hm2, hu2, hT2⟩ | ⟨rfl, hm2⟩, rfl, hj2⟩
      · skip
        try dsimp only [zov, Option.toList, List.cons_append, List.nil_append]
        first | refine z_if_neN (pc := 29) (tgt := 34) (by with_reducible rfl) dX9_isRoundDone_29 (by decide) (by omega) (fun hb29 => ?_) (fun hb29 => absurd hb29 (by decide)) | refine z_if_ne (pc := 29) (tgt := 34) dX9_isRoundDone_29 (by decide) (fun hb29 => ?_) (fun hb29 => absurd hb29 (by decide))
        · skip
          refine z_aload_n (pc := 34) dX9_isRoundDone_34 rfl rfl ?_
          refine z_getIv (pc := 35) dX9_isRoundDone_35 f_RX9_118 (by assumption) rfl (by first | assumption | exact (zup_v (by omega) v2) | rfl) ?_
          first | refine z_if_eqN (pc := 38) (tgt := 55) (by with_reducible rfl) dX9_isRoundDone_38 (by decide) (by omega) (fun hb38 => ?_) (fun hb38 => ?_) | refine z_if_eq (pc := 38) (tgt := 55) dX9_isRoundDone_38 (by decide) (fun hb38 => ?_) (fun hb38 => ?_)
          · skip
            have hjx : ∀ x, (x < 48 ∨ 52 < x) → _ = J x := fun x q => (by first | exact (hj3 _ (by omega)).trans ((hj2 _ (by omega)).trans ((hj1 _ (by omega)).trans (hj _ (by omega) (by omega)))) | exact ((hj2 _ (by omega)).trans ((hj1 _ (by omega)).trans (hj _ (by omega) (by omega)))))
            have h9 := zdf_9 (n := (by first | exact m3 | exact m2)) (m := n) (r := n 0) (c := n 1)
            have hja : _ = J (t + 1) := (by first | exact (hj3 _ (by omega)).trans ((hj2 _ (by omega)).trans ((hj1 _ (by omega)).trans (hj _ (by omega) (by omega)))) | exact ((hj2 _ (by omega)).trans ((hj1 _ (by omega)).trans (hj _ (by omega) (by omega)))))
            have hjb : _ = J (t + 2) := (by first | exact (hj3 _ (by omega)).trans ((hj2 _ (by omega)).trans ((hj1 _ (by omega)).trans (hj _ (by omega) (by omega)))) | exact ((hj2 _ (by omega)).trans ((hj1 _ (by omega)).trans (hj _ (by omega) (by omega)))))
            refine z_aload_n (pc := 55) dX9_isRoundDone_55 rfl rfl ?_
            refine z_getR (pc := 56) dX9_isRoundDone_56 f_RX9_56 (by assumption) rfl ?_
            refine z_aload_n (pc := 59) dX9_isRoundDone_59 rfl rfl ?_
            refine z_aload_n (pc := 60) dX9_isRoundDone_60 rfl rfl ?_
            refine z_callV (pc := 61) (c_X7_countOtherwise s0 (vS_to w0 (zup_o (by omega)) (zup_o (by omega)) (zup_o (by omega)) (zup_o (by omega))) hB cD (by assumption) (by assumption) t0 (m2 := n) (vT_to w1 (zup_o (by omega)) hja hjb) hT) dX9_isRoundDone_61 l_RX9_182 m_MX7_countOtherwise n_MX7_countOtherwise e_MX7_countOtherwise rfl (by omega) (by assumption) rfl rfl (Nat.le_of_ble_eq_true rfl) ?_
            rintro _ _ _ (⟨rfl, rfl, rfl⟩)
            try dsimp only [zov, Option.toList, List.cons_append, List.nil_append]
            first | refine z_if_neN (pc := 64) (tgt := 69) (by with_reducible rfl) dX9_isRoundDone_64 (by decide) (by omega) (fun hb64 => ?_) (fun hb64 => ?_) | refine z_if_ne (pc := 64) (tgt := 69) dX9_isRoundDone_64 (by decide) (fun hb64 => ?_) (fun hb64 => ?_)
            · skip
              refine z_aload_n (pc := 69) dX9_isRoundDone_69 rfl rfl ?_
              refine z_aload_n (pc := 70) dX9_isRoundDone_70 rfl rfl ?_
              refine z_getR (pc := 71) dX9_isRoundDone_71 f_RX9_56 (by assumption) rfl ?_
              refine z_callV (pc := 74) (c_X7_copyFrom t0 cD (by assumption) (by omega)) dX9_isRoundDone_74 l_RX9_174 m_MX7_copyFrom n_MX7_copyFrom e_MX7_copyFrom rfl (by omega) (by assumption) rfl rfl (Nat.le_of_ble_eq_true rfl) ?_
              rintro _ _ _ (⟨rfl, rfl, ⟨hu4, hj4⟩⟩)
              try dsimp only [zov, Option.toList, List.cons_append, List.nil_append]
              refine z_aload_n (pc := 77) dX9_isRoundDone_77 rfl rfl ?_
              refine z_dup (pc := 78) dX9_isRoundDone_78 rfl ?_
              refine z_getIv (pc := 79) dX9_isRoundDone_79 f_RX9_171 (by assumption) rfl (by first | assumption | exact (zup_v (by omega) v2) | rfl) ?_
              refine z_iconst (pc := 82) (v := nI 1) dX9_isRoundDone_82 (by decide) ?_
              first | refine z_iaddN (pc := 83) (by with_reducible rfl) (by with_reducible rfl) dX9_isRoundDone_83 ?_ | refine z_iadd (pc := 83) dX9_isRoundDone_83 ?_
              refine z_putI (pc := 84) dX9_isRoundDone_84 f_RX9_171 (by assumption) rfl ?_
              refine z_iconst (pc := 87) (v := nI 1) dX9_isRoundDone_87 (by decide) ?_
              refine z_zret (pc := 88) dX9_isRoundDone_88 rfl (by first | decide | assumption) ?_
              first
                | exact ⟨Or.inr ⟨rfl, zrd_1 hm1, vT_to w1 (zup_o (by omega)) ((hj1 _ (by omega)).trans (hj _ (by omega) (by omega))) ((hj1 _ (by omega)).trans (hj _ (by omega) (by omega)))⟩, fun x q1 q2 => zup_o q2, fun x q1 q2 q3 => (hj1 _ (by omega)).trans (hj _ (by omega) (by omega))⟩
                | exact ⟨Or.inr ⟨rfl, zrd_2 hm1 hm2, vT_to w1 (zup_o (by omega)) ((hj2 _ (by omega)).trans ((hj1 _ (by omega)).trans (hj _ (by omega) (by omega)))) ((hj2 _ (by omega)).trans ((hj1 _ (by omega)).trans (hj _ (by omega) (by omega))))⟩, fun x q1 q2 => zup_o q2, fun x q1 q2 q3 => (hj2 _ (by omega)).trans ((hj1 _ (by omega)).trans (hj _ (by omega) (by omega)))⟩
                | exact ⟨Or.inr ⟨rfl, zrd_3 hm1 hm2 (by omega) hm3, vT_to w1 (zup_o (by omega)) ((hj3 _ (by omega)).trans ((hj2 _ (by omega)).trans ((hj1 _ (by omega)).trans (hj _ (by omega) (by omega))))) ((hj3 _ (by omega)).trans ((hj2 _ (by omega)).trans ((hj1 _ (by omega)).trans (hj _ (by omega) (by omega)))))⟩, fun x q1 q2 => zup_o q2, fun x q1 q2 q3 => (hj3 _ (by omega)).trans ((hj2 _ (by omega)).trans ((hj1 _ (by omega)).trans (hj _ (by omega) (by omega))))⟩
                | exact ⟨Or.inr ⟨rfl, zrd_4 hm1 hm2 (by first | exact (if_pos (by omega)) | exact (if_neg (by omega)).trans hm3) (by omega), vT_to w1 (zup_o (by omega)) hja hjb⟩, fun x q1 q2 => zup_o q2, fun x q1 q2 q3 => hjx x q3⟩
                | (refine ⟨Or.inl ⟨rfl, _, zrd_5 hm1 hm2 (by first | exact (if_pos (by omega)) | exact (if_neg (by omega)).trans hm3) (by omega), ?_, zset1_bT (by assumption) (by omega)⟩, fun x q1 q2 => ?_, fun x q1 q2 q3 => (hj4 _ q1 q2).trans (hjx x q3)⟩
                   · refine ⟨fun k hk => ?_, fun k hk => ?_, ?_⟩
                     · rw [zset1_o (by omega)]; exact hu4.1 k hk
                     · rw [zset1_o (by omega)]; exact hu4.2.1 k hk
                     · rw [zset1_s, zup_s, zup_s, nI_add]
                       first
                       | rw [zfit_o hm3 3 (by omega), zfit_o hm2 3 (by omega), zfit_o hm1 3 (by omega)]
                       | rw [zfit_o hm2 3 (by omega), zfit_o hm1 3 (by omega)]
                   · rw [zup_o q1, zup_o q1, zup_o q2])
                | fail
            · skip
              refine z_iconst (pc := 67) (v := nI 0) dX9_isRoundDone_67 (by decide) ?_
              refine z_zret (pc := 68) dX9_isRoundDone_68 rfl (by first | decide | assumption) ?_
              first
                | exact ⟨Or.inr ⟨rfl, zrd_1 hm1, vT_to w1 (zup_o (by omega)) ((hj1 _ (by omega)).trans (hj _ (by omega) (by omega))) ((hj1 _ (by omega)).trans (hj _ (by omega) (by omega)))⟩, fun x q1 q2 => zup_o q2, fun x q1 q2 q3 => (hj1 _ (by omega)).trans (hj _ (by omega) (by omega))⟩
                | exact ⟨Or.inr ⟨rfl, zrd_2 hm1 hm2, vT_to w1 (zup_o (by omega)) ((hj2 _ (by omega)).trans ((hj1 _ (by omega)).trans (hj _ (by omega) (by omega)))) ((hj2 _ (by omega)).trans ((hj1 _ (by omega)).trans (hj _ (by omega) (by omega))))⟩, fun x q1 q2 => zup_o q2, fun x q1 q2 q3 => (hj2 _ (by omega)).trans ((hj1 _ (by omega)).trans (hj _ (by omega) (by omega)))⟩
                | exact ⟨Or.inr ⟨rfl, zrd_3 hm1 hm2 (by omega) hm3, vT_to w1 (zup_o (by omega)) ((hj3 _ (by omega)).trans ((hj2 _ (by omega)).trans ((hj1 _ (by omega)).trans (hj _ (by omega) (by omega))))) ((hj3 _ (by omega)).trans ((hj2 _ (by omega)).trans ((hj1 _ (by omega)).trans (hj _ (by omega) (by omega)))))⟩, fun x q1 q2 => zup_o q2, fun x q1 q2 q3 => (hj3 _ (by omega)).trans ((hj2 _ (by omega)).trans ((hj1 _ (by omega)).trans (hj _ (by omega) (by omega))))⟩
                | exact ⟨Or.inr ⟨rfl, zrd_4 hm1 hm2 (by first | exact (if_pos (by omega)) | exact (if_neg (by omega)).trans hm3) (by omega), vT_to w1 (zup_o (by omega)) hja hjb⟩, fun x q1 q2 => zup_o q2, fun x q1 q2 q3 => hjx x q3⟩
                | (refine ⟨Or.inl ⟨rfl, _, zrd_5 hm1 hm2 (by first | exact (if_pos (by omega)) | exact (if_neg (by omega)).trans hm3) (by omega), ?_, zset1_bT (by assumption) (by omega)⟩, fun x q1 q2 => ?_, fun x q1 q2 q3 => (hj4 _ q1 q2).trans (hjx x q3)⟩
                   · refine ⟨fun k hk => ?_, fun k hk => ?_, ?_⟩
                     · rw [zset1_o (by omega)]; exact hu4.1 k hk
                     · rw [zset1_o (by omega)]; exact hu4.2.1 k hk
                     · rw [zset1_s, zup_s, zup_s, nI_add]
                       first
                       | rw [zfit_o hm3 3 (by omega), zfit_o hm2 3 (by omega), zfit_o hm1 3 (by omega)]
                       | rw [zfit_o hm2 3 (by omega), zfit_o hm1 3 (by omega)]
                   · rw [zup_o q1, zup_o q1, zup_o q2])
                | fail
          · skip
            refine z_aload_n (pc := 41) dX9_isRoundDone_41 rfl rfl ?_
            refine z_getR (pc := 42) dX9_isRoundDone_42 f_RX9_56 (by assumption) rfl ?_
            refine z_aload_n (pc := 45) dX9_isRoundDone_45 rfl rfl ?_
            refine z_iconst (pc := 46) (v := nI 2) dX9_isRoundDone_46 (by decide) ?_
            refine z_callV (pc := 47) (c_X7_isFitted s0 (vS_to w0 (zup_o (by omega)) (zup_o (by omega)) (zup_o (by omega)) (zup_o (by omega))) hB cD hu2 hT2 (w := 2) (by omega)) dX9_isRoundDone_47 l_RX9_178 m_MX7_isFitted n_MX7_isFitted e_MX7_isFitted rfl (by omega) (by assumption) rfl rfl (Nat.le_of_ble_eq_true rfl) ?_
            rintro _ _ _ ⟨⟨rfl, m3, hm3, hu3, hT3⟩ | ⟨rfl, hm3⟩, rfl, hj3⟩
            · skip
              try dsimp only [zov, Option.toList, List.cons_append, List.nil_append]
              first | refine z_if_neN (pc := 50) (tgt := 55) (by with_reducible rfl) dX9_isRoundDone_50 (by decide) (by omega) (fun hb50 => ?_) (fun hb50 => absurd hb50 (by decide)) | refine z_if_ne (pc := 50) (tgt := 55) dX9_isRoundDone_50 (by decide) (fun hb50 => ?_) (fun hb50 => absurd hb50 (by decide))
              · skip
                have hjx : ∀ x, (x < 48 ∨ 52 < x) → _ = J x := fun x q => (by first | exact (hj3 _ (by omega)).trans ((hj2 _ (by omega)).trans ((hj1 _ (by omega)).trans (hj _ (by omega) (by omega)))) | exact ((hj2 _ (by omega)).trans ((hj1 _ (by omega)).trans (hj _ (by omega) (by omega)))))
                have h9 := zdf_9 (n := (by first | exact m3 | exact m2)) (m := n) (r := n 0) (c := n 1)
                have hja : _ = J (t + 1) := (by first | exact (hj3 _ (by omega)).trans ((hj2 _ (by omega)).trans ((hj1 _ (by omega)).trans (hj _ (by omega) (by omega)))) | exact ((hj2 _ (by omega)).trans ((hj1 _ (by omega)).trans (hj _ (by omega) (by omega)))))
                have hjb : _ = J (t + 2) := (by first | exact (hj3 _ (by omega)).trans ((hj2 _ (by omega)).trans ((hj1 _ (by omega)).trans (hj _ (by omega) (by omega)))) | exact ((hj2 _ (by omega)).trans ((hj1 _ (by omega)).trans (hj _ (by omega) (by omega)))))
                refine z_aload_n (pc := 55) dX9_isRoundDone_55 rfl rfl ?_
                refine z_getR (pc := 56) dX9_isRoundDone_56 f_RX9_56 (by assumption) rfl ?_
                refine z_aload_n (pc := 59) dX9_isRoundDone_59 rfl rfl ?_
                refine z_aload_n (pc := 60) dX9_isRoundDone_60 rfl rfl ?_
                refine z_callV (pc := 61) (c_X7_countOtherwise s0 (vS_to w0 (zup_o (by omega)) (zup_o (by omega)) (zup_o (by omega)) (zup_o (by omega))) hB cD (by assumption) (by assumption) t0 (m2 := n) (vT_to w1 (zup_o (by omega)) hja hjb) hT) dX9_isRoundDone_61 l_RX9_182 m_MX7_countOtherwise n_MX7_countOtherwise e_MX7_countOtherwise rfl (by omega) (by assumption) rfl rfl (Nat.le_of_ble_eq_true rfl) ?_
                rintro _ _ _ (⟨rfl, rfl, rfl⟩)
                try dsimp only [zov, Option.toList, List.cons_append, List.nil_append]
                first | refine z_if_neN (pc := 64) (tgt := 69) (by with_reducible rfl) dX9_isRoundDone_64 (by decide) (by omega) (fun hb64 => ?_) (fun hb64 => ?_) | refine z_if_ne (pc := 64) (tgt := 69) dX9_isRoundDone_64 (by decide) (fun hb64 => ?_) (fun hb64 => ?_)
                · skip
                  refine z_aload_n (pc := 69) dX9_isRoundDone_69 rfl rfl ?_
                  refine z_aload_n (pc := 70) dX9_isRoundDone_70 rfl rfl ?_
                  refine z_getR (pc := 71) dX9_isRoundDone_71 f_RX9_56 (by assumption) rfl ?_
                  refine z_callV (pc := 74) (c_X7_copyFrom t0 cD (by assumption) (by omega)) dX9_isRoundDone_74 l_RX9_174 m_MX7_copyFrom n_MX7_copyFrom e_MX7_copyFrom rfl (by omega) (by assumption) rfl rfl (Nat.le_of_ble_eq_true rfl) ?_
                  rintro _ _ _ (⟨rfl, rfl, ⟨hu4, hj4⟩⟩)
                  try dsimp only [zov, Option.toList, List.cons_append, List.nil_append]
                  refine z_aload_n (pc := 77) dX9_isRoundDone_77 rfl rfl ?_
                  refine z_dup (pc := 78) dX9_isRoundDone_78 rfl ?_
                  refine z_getIv (pc := 79) dX9_isRoundDone_79 f_RX9_171 (by assumption) rfl (by first | assumption | exact (zup_v (by omega) v2) | rfl) ?_
                  refine z_iconst (pc := 82) (v := nI 1) dX9_isRoundDone_82 (by decide) ?_
                  first | refine z_iaddN (pc := 83) (by with_reducible rfl) (by with_reducible rfl) dX9_isRoundDone_83 ?_ | refine z_iadd (pc := 83) dX9_isRoundDone_83 ?_
                  refine z_putI (pc := 84) dX9_isRoundDone_84 f_RX9_171 (by assumption) rfl ?_
                  refine z_iconst (pc := 87) (v := nI 1) dX9_isRoundDone_87 (by decide) ?_
                  refine z_zret (pc := 88) dX9_isRoundDone_88 rfl (by first | decide | assumption) ?_
                  first
                    | exact ⟨Or.inr ⟨rfl, zrd_1 hm1, vT_to w1 (zup_o (by omega)) ((hj1 _ (by omega)).trans (hj _ (by omega) (by omega))) ((hj1 _ (by omega)).trans (hj _ (by omega) (by omega)))⟩, fun x q1 q2 => zup_o q2, fun x q1 q2 q3 => (hj1 _ (by omega)).trans (hj _ (by omega) (by omega))⟩
                    | exact ⟨Or.inr ⟨rfl, zrd_2 hm1 hm2, vT_to w1 (zup_o (by omega)) ((hj2 _ (by omega)).trans ((hj1 _ (by omega)).trans (hj _ (by omega) (by omega)))) ((hj2 _ (by omega)).trans ((hj1 _ (by omega)).trans (hj _ (by omega) (by omega))))⟩, fun x q1 q2 => zup_o q2, fun x q1 q2 q3 => (hj2 _ (by omega)).trans ((hj1 _ (by omega)).trans (hj _ (by omega) (by omega)))⟩
                    | exact ⟨Or.inr ⟨rfl, zrd_3 hm1 hm2 (by omega) hm3, vT_to w1 (zup_o (by omega)) ((hj3 _ (by omega)).trans ((hj2 _ (by omega)).trans ((hj1 _ (by omega)).trans (hj _ (by omega) (by omega))))) ((hj3 _ (by omega)).trans ((hj2 _ (by omega)).trans ((hj1 _ (by omega)).trans (hj _ (by omega) (by omega)))))⟩, fun x q1 q2 => zup_o q2, fun x q1 q2 q3 => (hj3 _ (by omega)).trans ((hj2 _ (by omega)).trans ((hj1 _ (by omega)).trans (hj _ (by omega) (by omega))))⟩
                    | exact ⟨Or.inr ⟨rfl, zrd_4 hm1 hm2 (by first | exact (if_pos (by omega)) | exact (if_neg (by omega)).trans hm3) (by omega), vT_to w1 (zup_o (by omega)) hja hjb⟩, fun x q1 q2 => zup_o q2, fun x q1 q2 q3 => hjx x q3⟩
                    | (refine ⟨Or.inl ⟨rfl, _, zrd_5 hm1 hm2 (by first | exact (if_pos (by omega)) | exact (if_neg (by omega)).trans hm3) (by omega), ?_, zset1_bT (by assumption) (by omega)⟩, fun x q1 q2 => ?_, fun x q1 q2 q3 => (hj4 _ q1 q2).trans (hjx x q3)⟩
                       · refine ⟨fun k hk => ?_, fun k hk => ?_, ?_⟩
                         · rw [zset1_o (by omega)]; exact hu4.1 k hk
                         · rw [zset1_o (by omega)]; exact hu4.2.1 k hk
                         · rw [zset1_s, zup_s, zup_s, nI_add]
                           first
                           | rw [zfit_o hm3 3 (by omega), zfit_o hm2 3 (by omega), zfit_o hm1 3 (by omega)]
                           | rw [zfit_o hm2 3 (by omega), zfit_o hm1 3 (by omega)]
                       · rw [zup_o q1, zup_o q1, zup_o q2])
                    | fail
                · skip
                  refine z_iconst (pc := 67) (v := nI 0) dX9_isRoundDone_67 (by decide) ?_
                  refine z_zret (pc := 68) dX9_isRoundDone_68 rfl (by first | decide | assumption) ?_
                  first
                    | exact ⟨Or.inr ⟨rfl, zrd_1 hm1, vT_to w1 (zup_o (by omega)) ((hj1 _ (by omega)).trans (hj _ (by omega) (by omega))) ((hj1 _ (by omega)).trans (hj _ (by omega) (by omega)))⟩, fun x q1 q2 => zup_o q2, fun x q1 q2 q3 => (hj1 _ (by omega)).trans (hj _ (by omega) (by omega))⟩
                    | exact ⟨Or.inr ⟨rfl, zrd_2 hm1 hm2, vT_to w1 (zup_o (by omega)) ((hj2 _ (by omega)).trans ((hj1 _ (by omega)).trans (hj _ (by omega) (by omega)))) ((hj2 _ (by omega)).trans ((hj1 _ (by omega)).trans (hj _ (by omega) (by omega))))⟩, fun x q1 q2 => zup_o q2, fun x q1 q2 q3 => (hj2 _ (by omega)).trans ((hj1 _ (by omega)).trans (hj _ (by omega) (by omega)))⟩
                    | exact ⟨Or.inr ⟨rfl, zrd_3 hm1 hm2 (by omega) hm3, vT_to w1 (zup_o (by omega)) ((hj3 _ (by omega)).trans ((hj2 _ (by omega)).trans ((hj1 _ (by omega)).trans (hj _ (by omega) (by omega))))) ((hj3 _ (by omega)).trans ((hj2 _ (by omega)).trans ((hj1 _ (by omega)).trans (hj _ (by omega) (by omega)))))⟩, fun x q1 q2 => zup_o q2, fun x q1 q2 q3 => (hj3 _ (by omega)).trans ((hj2 _ (by omega)).trans ((hj1 _ (by omega)).trans (hj _ (by omega) (by omega))))⟩
                    | exact ⟨Or.inr ⟨rfl, zrd_4 hm1 hm2 (by first | exact (if_pos (by omega)) | exact (if_neg (by omega)).trans hm3) (by omega), vT_to w1 (zup_o (by omega)) hja hjb⟩, fun x q1 q2 => zup_o q2, fun x q1 q2 q3 => hjx x q3⟩
                    | (refine ⟨Or.inl ⟨rfl, _, zrd_5 hm1 hm2 (by first | exact (if_pos (by omega)) | exact (if_neg (by omega)).trans hm3) (by omega), ?_, zset1_bT (by assumption) (by omega)⟩, fun x q1 q2 => ?_, fun x q1 q2 q3 => (hj4 _ q1 q2).trans (hjx x q3)⟩
                       · refine ⟨fun k hk => ?_, fun k hk => ?_, ?_⟩
                         · rw [zset1_o (by omega)]; exact hu4.1 k hk
                         · rw [zset1_o (by omega)]; exact hu4.2.1 k hk
                         · rw [zset1_s, zup_s, zup_s, nI_add]
                           first
                           | rw [zfit_o hm3 3 (by omega), zfit_o hm2 3 (by omega), zfit_o hm1 3 (by omega)]
                           | rw [zfit_o hm2 3 (by omega), zfit_o hm1 3 (by omega)]
                       · rw [zup_o q1, zup_o q1, zup_o q2])
                    | fail
            · skip
              try dsimp only [zov, Option.toList, List.cons_append, List.nil_append]
              first | refine z_if_neN (pc := 50) (tgt := 55) (by with_reducible rfl) dX9_isRoundDone_50 (by decide) (by omega) (fun hb50 => absurd hb50 (by decide)) (fun hb50 => ?_) | refine z_if_ne (pc := 50) (tgt := 55) dX9_isRoundDone_50 (by decide) (fun hb50 => absurd hb50 (by decide)) (fun hb50 => ?_)
              · skip
                refine z_iconst (pc := 53) (v := nI 0) dX9_isRoundDone_53 (by decide) ?_
                refine z_zret (pc := 54) dX9_isRoundDone_54 rfl (by first | decide | assumption) ?_
                first
                  | exact ⟨Or.inr ⟨rfl, zrd_1 hm1, vT_to w1 (zup_o (by omega)) ((hj1 _ (by omega)).trans (hj _ (by omega) (by omega))) ((hj1 _ (by omega)).trans (hj _ (by omega) (by omega)))⟩, fun x q1 q2 => zup_o q2, fun x q1 q2 q3 => (hj1 _ (by omega)).trans (hj _ (by omega) (by omega))⟩
                  | exact ⟨Or.inr ⟨rfl, zrd_2 hm1 hm2, vT_to w1 (zup_o (by omega)) ((hj2 _ (by omega)).trans ((hj1 _ (by omega)).trans (hj _ (by omega) (by omega)))) ((hj2 _ (by omega)).trans ((hj1 _ (by omega)).trans (hj _ (by omega) (by omega))))⟩, fun x q1 q2 => zup_o q2, fun x q1 q2 q3 => (hj2 _ (by omega)).trans ((hj1 _ (by omega)).trans (hj _ (by omega) (by omega)))⟩
                  | exact ⟨Or.inr ⟨rfl, zrd_3 hm1 hm2 (by omega) hm3, vT_to w1 (zup_o (by omega)) ((hj3 _ (by omega)).trans ((hj2 _ (by omega)).trans ((hj1 _ (by omega)).trans (hj _ (by omega) (by omega))))) ((hj3 _ (by omega)).trans ((hj2 _ (by omega)).trans ((hj1 _ (by omega)).trans (hj _ (by omega) (by omega)))))⟩, fun x q1 q2 => zup_o q2, fun x q1 q2 q3 => (hj3 _ (by omega)).trans ((hj2 _ (by omega)).trans ((hj1 _ (by omega)).trans (hj _ (by omega) (by omega))))⟩
                  | exact ⟨Or.inr ⟨rfl, zrd_4 hm1 hm2 (by first | exact (if_pos (by omega)) | exact (if_neg (by omega)).trans hm3) (by omega), vT_to w1 (zup_o (by omega)) hja hjb⟩, fun x q1 q2 => zup_o q2, fun x q1 q2 q3 => hjx x q3⟩
                  | (refine ⟨Or.inl ⟨rfl, _, zrd_5 hm1 hm2 (by first | exact (if_pos (by omega)) | exact (if_neg (by omega)).trans hm3) (by omega), ?_, zset1_bT (by assumption) (by omega)⟩, fun x q1 q2 => ?_, fun x q1 q2 q3 => (hj4 _ q1 q2).trans (hjx x q3)⟩
                     · refine ⟨fun k hk => ?_, fun k hk => ?_, ?_⟩
                       · rw [zset1_o (by omega)]; exact hu4.1 k hk
                       · rw [zset1_o (by omega)]; exact hu4.2.1 k hk
                       · rw [zset1_s, zup_s, zup_s, nI_add]
                         first
                         | rw [zfit_o hm3 3 (by omega), zfit_o hm2 3 (by omega), zfit_o hm1 3 (by omega)]
                         | rw [zfit_o hm2 3 (by omega), zfit_o hm1 3 (by omega)]
                     · rw [zup_o q1, zup_o q1, zup_o q2])
                  | fail
      · skip
        try dsimp only [zov, Option.toList, List.cons_append, List.nil_append]
        first | refine z_if_neN (pc := 29) (tgt := 34) (by with_reducible rfl) dX9_isRoundDone_29 (by decide) (by omega) (fun hb29 => absurd hb29 (by decide)) (fun hb29 => ?_) | refine z_if_ne (pc := 29) (tgt := 34) dX9_isRoundDone_29 (by decide) (fun hb29 => absurd hb29 (by decide)) (fun hb29 => ?_)
        · skip
          refine z_iconst (pc := 32) (v := nI 0) dX9_isRoundDone_32 (by decide) ?_
          refine z_zret (pc := 33) dX9_isRoundDone_33 rfl (by first | decide | assumption) ?_
          first
            | exact ⟨Or.inr ⟨rfl, zrd_1 hm1, vT_to w1 (zup_o (by omega)) ((hj1 _ (by omega)).trans (hj _ (by omega) (by omega))) ((hj1 _ (by omega)).trans (hj _ (by omega) (by omega)))⟩, fun x q1 q2 => zup_o q2, fun x q1 q2 q3 => (hj1 _ (by omega)).trans (hj _ (by omega) (by omega))⟩
            | exact ⟨Or.inr ⟨rfl, zrd_2 hm1 hm2, vT_to w1 (zup_o (by omega)) ((hj2 _ (by omega)).trans ((hj1 _ (by omega)).trans (hj _ (by omega) (by omega)))) ((hj2 _ (by omega)).trans ((hj1 _ (by omega)).trans (hj _ (by omega) (by omega))))⟩, fun x q1 q2 => zup_o q2, fun x q1 q2 q3 => (hj2 _ (by omega)).trans ((hj1 _ (by omega)).trans (hj _ (by omega) (by omega)))⟩
            | exact ⟨Or.inr ⟨rfl, zrd_3 hm1 hm2 (by omega) hm3, vT_to w1 (zup_o (by omega)) ((hj3 _ (by omega)).trans ((hj2 _ (by omega)).trans ((hj1 _ (by omega)).trans (hj _ (by omega) (by omega))))) ((hj3 _ (by omega)).trans ((hj2 _ (by omega)).trans ((hj1 _ (by omega)).trans (hj _ (by omega) (by omega)))))⟩, fun x q1 q2 => zup_o q2, fun x q1 q2 q3 => (hj3 _ (by omega)).trans ((hj2 _ (by omega)).trans ((hj1 _ (by omega)).trans (hj _ (by omega) (by omega))))⟩
            | exact ⟨Or.inr ⟨rfl, zrd_4 hm1 hm2 (by first | exact (if_pos (by omega)) | exact (if_neg (by omega)).trans hm3) (by omega), vT_to w1 (zup_o (by omega)) hja hjb⟩, fun x q1 q2 => zup_o q2, fun x q1 q2 q3 => hjx x q3⟩
            | (refine ⟨Or.inl ⟨rfl, _, zrd_5 hm1 hm2 (by first | exact (if_pos (by omega)) | exact (if_neg (by omega)).trans hm3) (by omega), ?_, zset1_bT (by assumption) (by omega)⟩, fun x q1 q2 => ?_, fun x q1 q2 q3 => (hj4 _ q1 q2).trans (hjx x q3)⟩
               · refine ⟨fun k hk => ?_, fun k hk => ?_, ?_⟩
                 · rw [zset1_o (by omega)]; exact hu4.1 k hk
                 · rw [zset1_o (by omega)]; exact hu4.2.1 k hk
                 · rw [zset1_s, zup_s, zup_s, nI_add]
                   first
                   | rw [zfit_o hm3 3 (by omega), zfit_o hm2 3 (by omega), zfit_o hm1 3 (by omega)]
                   | rw [zfit_o hm2 3 (by omega), zfit_o hm1 3 (by omega)]
               · rw [zup_o q1, zup_o q1, zup_o q2])
            | fail
  · skip
    try dsimp only [zov, Option.toList, List.cons_append, List.nil_append]
    first | refine z_if_eqN (pc := 17) (tgt := 32) (by with_reducible rfl) dX9_isRoundDone_17 (by decide) (by omega) (fun hb17 => ?_) (fun hb17 => absurd hb17 (by decide)) | refine z_if_eq (pc := 17) (tgt := 32) dX9_isRoundDone_17 (by decide) (fun hb17 => ?_) (fun hb17 => absurd hb17 (by decide))
    · skip
      refine z_iconst (pc := 32) (v := nI 0) dX9_isRoundDone_32 (by decide) ?_
      refine z_zret (pc := 33) dX9_isRoundDone_33 rfl (by first | decide | assumption) ?_
      first
        | exact ⟨Or.inr ⟨rfl, zrd_1 hm1, vT_to w1 (zup_o (by omega)) ((hj1 _ (by omega)).trans (hj _ (by omega) (by omega))) ((hj1 _ (by omega)).trans (hj _ (by omega) (by omega)))⟩, fun x q1 q2 => zup_o q2, fun x q1 q2 q3 => (hj1 _ (by omega)).trans (hj _ (by omega) (by omega))⟩
        | exact ⟨Or.inr ⟨rfl, zrd_2 hm1 hm2, vT_to w1 (zup_o (by omega)) ((hj2 _ (by omega)).trans ((hj1 _ (by omega)).trans (hj _ (by omega) (by omega)))) ((hj2 _ (by omega)).trans ((hj1 _ (by omega)).trans (hj _ (by omega) (by omega))))⟩, fun x q1 q2 => zup_o q2, fun x q1 q2 q3 => (hj2 _ (by omega)).trans ((hj1 _ (by omega)).trans (hj _ (by omega) (by omega)))⟩
        | exact ⟨Or.inr ⟨rfl, zrd_3 hm1 hm2 (by omega) hm3, vT_to w1 (zup_o (by omega)) ((hj3 _ (by omega)).trans ((hj2 _ (by omega)).trans ((hj1 _ (by omega)).trans (hj _ (by omega) (by omega))))) ((hj3 _ (by omega)).trans ((hj2 _ (by omega)).trans ((hj1 _ (by omega)).trans (hj _ (by omega) (by omega)))))⟩, fun x q1 q2 => zup_o q2, fun x q1 q2 q3 => (hj3 _ (by omega)).trans ((hj2 _ (by omega)).trans ((hj1 _ (by omega)).trans (hj _ (by omega) (by omega))))⟩
        | exact ⟨Or.inr ⟨rfl, zrd_4 hm1 hm2 (by first | exact (if_pos (by omega)) | exact (if_neg (by omega)).trans hm3) (by omega), vT_to w1 (zup_o (by omega)) hja hjb⟩, fun x q1 q2 => zup_o q2, fun x q1 q2 q3 => hjx x q3⟩
        | (refine ⟨Or.inl ⟨rfl, _, zrd_5 hm1 hm2 (by first | exact (if_pos (by omega)) | exact (if_neg (by omega)).trans hm3) (by omega), ?_, zset1_bT (by assumption) (by omega)⟩, fun x q1 q2 => ?_, fun x q1 q2 q3 => (hj4 _ q1 q2).trans (hjx x q3)⟩
           · refine ⟨fun k hk => ?_, fun k hk => ?_, ?_⟩
             · rw [zset1_o (by omega)]; exact hu4.1 k hk
             · rw [zset1_o (by omega)]; exact hu4.2.1 k hk
             · rw [zset1_s, zup_s, zup_s, nI_add]
               first
               | rw [zfit_o hm3 3 (by omega), zfit_o hm2 3 (by omega), zfit_o hm1 3 (by omega)]
               | rw [zfit_o hm2 3 (by omega), zfit_o hm1 3 (by omega)]
           · rw [zup_o q1, zup_o q1, zup_o q2])
        | fail
theorem zrds_n {m d : Nat} {n : Nat → Nat} (h : zrd n = none) : zrds (m + 1) d n = (d, n) := by
  show (match zrd n with | none => (d, n) | some n' => zrds m (d + 1) n') = _
  rw [h]
theorem zrds_y {m d : Nat} {n n2 : Nat → Nat} (h : zrd n = some n2) : zrds (m + 1) d n = zrds m (d + 1) n2 := by
  show (match zrd n with | none => (d, n) | some n' => zrds m (d + 1) n') = _
  rw [h]
theorem zrd_bN {n n2 : Nat → Nat} (h : bN n) (e : zrd n = some n2) (h2 : bT n2) : bN n2 := bN_of h (bS_to h.1 (fun k q => zrd_o e k (by omega) (by omega))) h2 (zrd_o e _ (by omega) (by omega)) (zrd_o e _ (by omega) (by omega)) (fun k q => zrd_o e k (by omega) (by omega))
set_option maxHeartbeats 2000000 in
set_option maxRecDepth 20000 in
theorem l_X9_rounds {lay : List zL} {Q : Value → zI → zJ → Prop} {d0 x : Nat} (hC : kC lay) (hx : x ≤ 20) : ∀ (m d : Nat) (S : zS) (I : zI) (J : zJ), d + m = x → vC I J S → (∀ I' J', vC I' J' (S.up (zrds m d S.n).2) → (∀ x, 78 < x → I' x = I x) → (∀ x, 78 < x → J' x = J x) → Q (.int (nI (zrds m d S.n).1)) I' J') → Z lay MX9_rounds (d0 + 5) 15 [.ref 0, .int (nI x), .int (nI d)] [] I J Q := by
  intro m
  induction m with
  | zero =>
    intro d S I J hd hV hq
    obtain rfl : d = x := (by omega)
    refine z_iload_n (pc := 15) dX9_rounds_15 rfl rfl ?_
    refine z_iload_n (pc := 16) dX9_rounds_16 rfl rfl ?_
    first | refine z_icmp_geN (pc := 17) (tgt := 47) (by with_reducible rfl) (by with_reducible rfl) dX9_rounds_17 (by decide) (by omega) (by omega) (fun hb17 => ?_) (fun hb17 => absurd hb17 (by omega)) | refine z_icmp_ge (pc := 17) (tgt := 47) dX9_rounds_17 (by decide) (fun hb17 => ?_) (fun hb17 => absurd hb17 (by omega))
    · skip
      refine z_iload_n (pc := 47) dX9_rounds_47 rfl rfl ?_
      refine z_iret (pc := 48) dX9_rounds_48 rfl ?_
      exact hq _ _ hV (fun _ _ => rfl) (fun _ _ => rfl)
  | succ m ih =>
    intro d S I J hd hV hq
    obtain ⟨c0, ⟨cP, cG⟩, ⟨cX, cQ, cR⟩, ⟨cS, cB, cD⟩, cf1, cf2, cf3, cU⟩ := id hC
    have p0 : lay[1]? = some (.inl (2, [4, 8, 13, 16, 19])) := cP.1
    have s0 : kS lay 2 := cP.2.1
    obtain ⟨s1, s2, s3, s4⟩ := id s0
    have t0 : kT lay 6 := cP.2.2.1
    obtain ⟨t1, t2, t3, t4, t5⟩ := id t0
    have n5 : kN lay 11 5 := cP.2.2.2.1
    have n8 : kN lay 14 8 := cP.2.2.2.2.1
    have m8 : kN lay 17 8 := cP.2.2.2.2.2
    have w0 : vS I 2 S.n := hV.1.1.1
    have w1 : vT I J 6 S.n := hV.1.1.2.1
    have w5 : vN I 11 5 (S.n 4) (fun k => S.n (52 + k) / 100) (fun k => S.n (52 + k) % 100) := hV.1.1.2.2.1
    have w8 : vN I 14 8 (S.n 5) (fun k => S.n (57 + k) / 100) (fun k => S.n (57 + k) % 100) := hV.1.1.2.2.2.1
    have x8 : vN I 17 8 (S.n 6) (fun k => S.n (65 + k) / 100) (fun k => S.n (65 + k) % 100) := hV.1.1.2.2.2.2
    obtain ⟨v0, v1, v2, v3, v4, v5⟩ := id w0
    obtain ⟨y0, y1, y2⟩ := id w1
    have hb := hV.1.2
    have hB := hb.1
    have hT := hb.2.1
    obtain ⟨b1, b2, b3, b4, b5, b6, b7, b8⟩ := id hB
    have ox := cX.1
    have oq := cQ.1
    have ow := cR.1
    have od := cD.1
    have oe := cB.1
    have of1 := cS.1
    have of2 := cS.2.1
    have ou := cU.1
    have og := cG.1
    have on5 := n5.1
    have on8 := n8.1
    have om8 := m8.1
    have ov := cR.2.1.1
    have z1 := cf1
    have z2 := cf2
    have z3 := cf3
    unfold kF at z1 z2 z3
    refine z_iload_n (pc := 15) dX9_rounds_15 rfl rfl ?_
    refine z_iload_n (pc := 16) dX9_rounds_16 rfl rfl ?_
    first | refine z_icmp_geN (pc := 17) (tgt := 47) (by with_reducible rfl) (by with_reducible rfl) dX9_rounds_17 (by decide) (by omega) (by omega) (fun hb17 => absurd hb17 (by omega)) (fun hb17 => ?_) | refine z_icmp_ge (pc := 17) (tgt := 47) dX9_rounds_17 (by decide) (fun hb17 => absurd hb17 (by omega)) (fun hb17 => ?_)
    · skip
      refine z_aload_n (pc := 20) dX9_rounds_20 rfl rfl ?_
      refine z_aload_n (pc := 21) dX9_rounds_21 rfl rfl ?_
      refine z_getR (pc := 22) dX9_rounds_22 f_RX9_12 (by assumption) rfl ?_
      refine z_getR (pc := 25) dX9_rounds_25 f_RX9_83 (by assumption) rfl ?_
      refine z_aload_n (pc := 28) dX9_rounds_28 rfl rfl ?_
      refine z_getR (pc := 29) dX9_rounds_29 f_RX9_12 (by assumption) rfl ?_
      refine z_getR (pc := 32) dX9_rounds_32 f_RX9_102 (by assumption) rfl ?_
      refine z_callV (pc := 35) (c_X9_isRoundDone hC s0 w0 hB t0 w1 hT (by omega) (by omega) (by omega)) dX9_rounds_35 l_RX9_186 m_MX9_isRoundDone n_MX9_isRoundDone e_MX9_isRoundDone rfl (by omega) (by assumption) rfl rfl (Nat.le_of_ble_eq_true rfl) ?_
      rintro _ _ _ ⟨⟨rfl, n2, hn, hu, hT2⟩ | ⟨rfl, hn, hu⟩, hi, hj⟩
      · skip
        try dsimp only [zov, Option.toList, List.cons_append, List.nil_append]
        first | refine z_if_eqN (pc := 38) (tgt := 47) (by with_reducible rfl) dX9_rounds_38 (by decide) (by omega) (fun hb38 => absurd hb38 (by decide)) (fun hb38 => ?_) | refine z_if_eq (pc := 38) (tgt := 47) dX9_rounds_38 (by decide) (fun hb38 => absurd hb38 (by decide)) (fun hb38 => ?_)
        · skip
          first | refine z_iincN (pc := 41) (c := 1) dX9_rounds_41 rfl (by with_reducible rfl) (by decide) (by decide) rfl ?_ | refine z_iinc (pc := 41) dX9_rounds_41 rfl rfl (by decide) rfl ?_
          try dsimp only [zst1, zst2, zk]
          refine z_goto (pc := 44) (tgt := 15) dX9_rounds_44 (by decide) ?_
          have hq9 := hq
          rw [zrds_y hn] at hq9
          have hvp : vP _ _ 1 n2 := vP_tab (vC_n hV) hu (fun y q1 q2 q3 => hi y (by omega) (by omega)) (fun k q => zrd_o hn k (by omega) (by omega))
          have hvc : vC _ _ (S.up n2) := vC_now hV (fun y q1 q2 => hi y (by omega) (by omega)) (fun y q1 q2 => hj y (by omega) (by omega) (by omega)) hvp (zrd_bN hb hn hT2)
          exact ih (d + 1) (S.up n2) _ _ (by omega) hvc (fun I9 J9 h1 h2 h3 => hq9 I9 J9 h1 (fun y hy => (h2 y hy).trans (hi y (by omega) (by omega))) (fun y hy => (h3 y hy).trans (hj y (by omega) (by omega) (by omega))))
      · skip
        try dsimp only [zov, Option.toList, List.cons_append, List.nil_append]
        first | refine z_if_eqN (pc := 38) (tgt := 47) (by with_reducible rfl) dX9_rounds_38 (by decide) (by omega) (fun hb38 => ?_) (fun hb38 => absurd hb38 (by decide)) | refine z_if_eq (pc := 38) (tgt := 47) dX9_rounds_38 (by decide) (fun hb38 => ?_) (fun hb38 => absurd hb38 (by decide))
        · skip
          refine z_iload_n (pc := 47) dX9_rounds_47 rfl rfl ?_
          refine z_iret (pc := 48) dX9_rounds_48 rfl ?_
          rw [zrds_n hn] at hq
          have hvp : vP _ _ 1 S.n := vP_tab (vC_n hV) hu (fun y q1 q2 q3 => hi y (by omega) (by omega)) (fun k q => rfl)
          exact hq _ _ (vC_now hV (fun y q1 q2 => hi y (by omega) (by omega)) (fun y q1 q2 => hj y (by omega) (by omega) (by omega)) hvp hb) (fun y hy => hi y (by omega) (by omega)) (fun y hy => hj y (by omega) (by omega) (by omega))
set_option maxHeartbeats 2000000 in
set_option maxRecDepth 20000 in
theorem c_X9_rounds {lay : List zL} {I : zI} {J : zJ} {S : zS} (hC : kC lay) (hV : vC I J S) {v : Int32} : zMet lay MX9_rounds 5 [.ref 0, .int v] I J (fun r I' J' => zPC I J (frounds S v) r I' J') := by
  refine zMet_of (t := MX9_rounds) (ls := [.ref 0, .int v, .null]) (by decide +kernel) (Nat.le_of_ble_eq_true rfl) rfl ?_
  refine z_iload_n (pc := 0) dX9_rounds_0 rfl rfl ?_
  first | refine z_if_ltN (pc := 1) (tgt := 10) (by with_reducible rfl) dX9_rounds_1 (by decide) (by omega) (fun hb1 => ?_) (fun hb1 => ?_) | refine z_if_lt (pc := 1) (tgt := 10) dX9_rounds_1 (by decide) (fun hb1 => ?_) (fun hb1 => ?_)
  · skip
    refine z_bipush (pc := 10) (v := -2) dX9_rounds_10 (by decide) ?_
    refine z_iret (pc := 12) dX9_rounds_12 rfl ?_
    first
      | exact zPC_same hV (by rw [frounds, zR_n (isR_1 (by decide) hb1)])
      | exact zPC_same hV (by rw [frounds, zR_n (isR_2 (by decide) (Int32.not_le.mp hb7))])
      | fail
  · skip
    refine z_iload_n (pc := 4) dX9_rounds_4 rfl rfl ?_
    refine z_bipush (pc := 5) (v := nI 20) dX9_rounds_5 (by decide) ?_
    first | refine z_icmp_leN (pc := 7) (tgt := 13) (by with_reducible rfl) (by with_reducible rfl) dX9_rounds_7 (by decide) (by omega) (by omega) (fun hb7 => ?_) (fun hb7 => ?_) | refine z_icmp_le (pc := 7) (tgt := 13) dX9_rounds_7 (by decide) (fun hb7 => ?_) (fun hb7 => ?_)
    · skip
      refine z_iconst (pc := 13) (v := nI 0) dX9_rounds_13 (by decide) ?_
      refine z_istore_n (pc := 14) dX9_rounds_14 rfl (by decide) rfl ?_
      try dsimp only [zst1, zst2, zk]
      obtain ⟨x, rfl, hx⟩ := nI_get2 (m := 20) (by omega) hb1 (Int32.not_lt.mpr hb7)
      exact l_X9_rounds hC hx x 0 S I J (by omega) hV (fun I9 J9 h1 h2 h3 => by
        have e : frounds S (nI x) = (.int (nI (zrds x 0 S.n).1), S.up (zrds x 0 S.n).2) := by rw [frounds, zR_y (by decide) hx]
        rw [e]
        exact ⟨rfl, h1, h2, h3⟩)
    · skip
      refine z_bipush (pc := 10) (v := -2) dX9_rounds_10 (by decide) ?_
      refine z_iret (pc := 12) dX9_rounds_12 rfl ?_
      first
        | exact zPC_same hV (by rw [frounds, zR_n (isR_1 (by decide) hb1)])
        | exact zPC_same hV (by rw [frounds, zR_n (isR_2 (by decide) (Int32.not_le.mp hb7))])
        | fail
set_option maxHeartbeats 2000000 in
set_option maxRecDepth 20000 in
theorem c_X9_cell {lay : List zL} {I : zI} {J : zJ} {S : zS} (hC : kC lay) (hV : vC I J S) {i j w : Int32} : zMet lay MX9_cell 3 [.ref 0, .int i, .int j, .int w] I J (fun r I' J' => zPC I J (fcell S i j w) r I' J') := by
  refine zMet_of (t := MX9_cell) (ls := [.ref 0, .int i, .int j, .int w]) (by decide +kernel) (Nat.le_of_ble_eq_true rfl) rfl ?_
  obtain ⟨c0, ⟨cP, cG⟩, ⟨cX, cQ, cR⟩, ⟨cS, cB, cD⟩, cf1, cf2, cf3, cU⟩ := id hC
  have p0 : lay[1]? = some (.inl (2, [4, 8, 13, 16, 19])) := cP.1
  have s0 : kS lay 2 := cP.2.1
  obtain ⟨s1, s2, s3, s4⟩ := id s0
  have t0 : kT lay 6 := cP.2.2.1
  obtain ⟨t1, t2, t3, t4, t5⟩ := id t0
  have n5 : kN lay 11 5 := cP.2.2.2.1
  have n8 : kN lay 14 8 := cP.2.2.2.2.1
  have m8 : kN lay 17 8 := cP.2.2.2.2.2
  have w0 : vS I 2 S.n := hV.1.1.1
  have w1 : vT I J 6 S.n := hV.1.1.2.1
  have w5 : vN I 11 5 (S.n 4) (fun k => S.n (52 + k) / 100) (fun k => S.n (52 + k) % 100) := hV.1.1.2.2.1
  have w8 : vN I 14 8 (S.n 5) (fun k => S.n (57 + k) / 100) (fun k => S.n (57 + k) % 100) := hV.1.1.2.2.2.1
  have x8 : vN I 17 8 (S.n 6) (fun k => S.n (65 + k) / 100) (fun k => S.n (65 + k) % 100) := hV.1.1.2.2.2.2
  obtain ⟨v0, v1, v2, v3, v4, v5⟩ := id w0
  obtain ⟨y0, y1, y2⟩ := id w1
  have hb := hV.1.2
  have hB := hb.1
  have hT := hb.2.1
  obtain ⟨b1, b2, b3, b4, b5, b6, b7, b8⟩ := id hB
  have ox := cX.1
  have oq := cQ.1
  have ow := cR.1
  have od := cD.1
  have oe := cB.1
  have of1 := cS.1
  have of2 := cS.2.1
  have ou := cU.1
  have og := cG.1
  have on5 := n5.1
  have on8 := n8.1
  have om8 := m8.1
  have ov := cR.2.1.1
  have z1 := cf1
  have z2 := cf2
  have z3 := cf3
  unfold kF at z1 z2 z3
  refine z_aload_n (pc := 0) dX9_cell_0 rfl rfl ?_
  refine z_getR (pc := 1) dX9_cell_1 f_RX9_12 (by assumption) rfl ?_
  refine z_getR (pc := 4) dX9_cell_4 f_RX9_83 (by assumption) rfl ?_
  refine z_iload_n (pc := 7) dX9_cell_7 rfl rfl ?_
  refine z_iload_n (pc := 8) dX9_cell_8 rfl rfl ?_
  refine z_callV (pc := 9) (c_X6_hasCell s0 w0 hB) dX9_cell_9 l_RX9_90 m_MX6_hasCell n_MX6_hasCell e_MX6_hasCell rfl (by omega) (by assumption) rfl rfl (Nat.le_of_ble_eq_true rfl) ?_
  rintro _ _ _ ⟨⟨rfl, hc⟩ | ⟨rfl, hc⟩, rfl, rfl⟩
  · obtain ⟨a, b, rfl, rfl, ha, hbb⟩ := hc; have hk : 3 * a + b < 9 := (by omega)
    try dsimp only [zov, Option.toList, List.cons_append, List.nil_append]
    first | refine z_if_neN (pc := 12) (tgt := 19) (by with_reducible rfl) dX9_cell_12 (by decide) (by omega) (fun hb12 => ?_) (fun hb12 => absurd hb12 (by decide)) | refine z_if_ne (pc := 12) (tgt := 19) dX9_cell_12 (by decide) (fun hb12 => ?_) (fun hb12 => absurd hb12 (by decide))
    · skip
      refine z_iload_n (pc := 19) dX9_cell_19 rfl rfl ?_
      by_cases hsw0 : w = nI 0
      · subst hsw0
        refine z_lookup (pc := 20) (off := 28) (tgt := 48) dX9_cell_20 (by decide) (by decide) (by decide) ?_
        refine z_aload_n (pc := 48) dX9_cell_48 rfl rfl ?_
        refine z_getR (pc := 49) dX9_cell_49 f_RX9_12 (by assumption) rfl ?_
        refine z_getR (pc := 52) dX9_cell_52 f_RX9_102 (by assumption) rfl ?_
        refine z_getR (pc := 55) dX9_cell_55 f_RX9_192 (by assumption) rfl ?_
        refine z_iload_n (pc := 58) dX9_cell_58 rfl rfl ?_
        refine z_iload_n (pc := 59) dX9_cell_59 rfl rfl ?_
        refine z_callS (pc := 60) c_X9_place dX9_cell_60 l_RX9_98 m_MX9_place s_MX9_place rfl (by omega) rfl (Nat.le_of_ble_eq_true rfl) ?_
        rintro _ _ _ (⟨rfl, rfl, rfl⟩)
        try dsimp only [zov, Option.toList, List.cons_append, List.nil_append]
        refine z_laloadv (pc := 63) dX9_cell_63 (by assumption) (by with_reducible rfl) (by omega) (by decide) (by first | assumption | exact v3 _ (by omega) | exact v4 _ (by omega) | exact v5 _ (by omega) | exact y0 _ (by omega) | exact y1 _ (by omega) | rfl) ?_
        refine z_lret (pc := 64) dX9_cell_64 rfl ?_
        first
          | exact zPC_same hV (by rw [fcell, zC_n hc]; rfl)
          | exact zPC_same hV (by rw [fcell, zC_y b2 b4 ha hbb]; rfl)
          | exact zPC_same hV (by rw [fcell, zC_y b2 b4 ha hbb]; dsimp only [zpt]; rw [if_neg hsw0, if_neg hsw1])
          | fail
      by_cases hsw1 : w = nI 1
      · subst hsw1
        refine z_lookup (pc := 20) (off := 45) (tgt := 65) dX9_cell_20 (by decide) (by decide) (by decide) ?_
        refine z_aload_n (pc := 65) dX9_cell_65 rfl rfl ?_
        refine z_getR (pc := 66) dX9_cell_66 f_RX9_12 (by assumption) rfl ?_
        refine z_getR (pc := 69) dX9_cell_69 f_RX9_102 (by assumption) rfl ?_
        refine z_getR (pc := 72) dX9_cell_72 f_RX9_196 (by assumption) rfl ?_
        refine z_iload_n (pc := 75) dX9_cell_75 rfl rfl ?_
        refine z_iload_n (pc := 76) dX9_cell_76 rfl rfl ?_
        refine z_callS (pc := 77) c_X9_place dX9_cell_77 l_RX9_98 m_MX9_place s_MX9_place rfl (by omega) rfl (Nat.le_of_ble_eq_true rfl) ?_
        rintro _ _ _ (⟨rfl, rfl, rfl⟩)
        try dsimp only [zov, Option.toList, List.cons_append, List.nil_append]
        refine z_laloadv (pc := 80) dX9_cell_80 (by assumption) (by with_reducible rfl) (by omega) (by decide) (by first | assumption | exact v3 _ (by omega) | exact v4 _ (by omega) | exact v5 _ (by omega) | exact y0 _ (by omega) | exact y1 _ (by omega) | rfl) ?_
        refine z_lret (pc := 81) dX9_cell_81 rfl ?_
        first
          | exact zPC_same hV (by rw [fcell, zC_n hc]; rfl)
          | exact zPC_same hV (by rw [fcell, zC_y b2 b4 ha hbb]; rfl)
          | exact zPC_same hV (by rw [fcell, zC_y b2 b4 ha hbb]; dsimp only [zpt]; rw [if_neg hsw0, if_neg hsw1])
          | fail
      · skip
        have e0 : w.toInt ≠ 0 := fun h => hsw0 (Int32.toInt_inj.mp (h.trans (by decide))); have e1 : w.toInt ≠ 1 := fun h => hsw1 (Int32.toInt_inj.mp (h.trans (by decide)))
        refine z_lookup (pc := 20) (off := 62) (tgt := 82) dX9_cell_20 (by decide) (by simp [Op.lookupswitch.offset, Ne.symm e0, Ne.symm e1, e0, e1]) (by decide) ?_
        refine z_ldc2 (pc := 82) (v := -9223372036854775808) dX9_cell_82 q_RX9_190 ?_
        refine z_lret (pc := 85) dX9_cell_85 rfl ?_
        first
          | exact zPC_same hV (by rw [fcell, zC_n hc]; rfl)
          | exact zPC_same hV (by rw [fcell, zC_y b2 b4 ha hbb]; rfl)
          | exact zPC_same hV (by rw [fcell, zC_y b2 b4 ha hbb]; dsimp only [zpt]; rw [if_neg hsw0, if_neg hsw1])
          | fail
  · skip
    try dsimp only [zov, Option.toList, List.cons_append, List.nil_append]
    first | refine z_if_neN (pc := 12) (tgt := 19) (by with_reducible rfl) dX9_cell_12 (by decide) (by omega) (fun hb12 => absurd hb12 (by decide)) (fun hb12 => ?_) | refine z_if_ne (pc := 12) (tgt := 19) dX9_cell_12 (by decide) (fun hb12 => absurd hb12 (by decide)) (fun hb12 => ?_)
    · skip
      refine z_ldc2 (pc := 15) (v := -9223372036854775808) dX9_cell_15 q_RX9_190 ?_
      refine z_lret (pc := 18) dX9_cell_18 rfl ?_
      first
        | exact zPC_same hV (by rw [fcell, zC_n hc]; rfl)
        | exact zPC_same hV (by rw [fcell, zC_y b2 b4 ha hbb]; rfl)
        | exact zPC_same hV (by rw [fcell, zC_y b2 b4 ha hbb]; dsimp only [zpt]; rw [if_neg hsw0, if_neg hsw1])
        | fail
theorem zpt_0 {x y : Nat} : zpt (nI 0) x y = lN x := rfl
theorem zpt_1 {x y : Nat} : zpt (nI 1) x y = lN y := rfl
theorem zpt_n {p : Int32} {x y : Nat} (h0 : p ≠ nI 0) (h1 : p ≠ nI 1) : zpt p x y = -9223372036854775808 := by unfold zpt; rw [if_neg h0, if_neg h1]
theorem zkp_1 {α : Type} {I I' : Nat → Nat → α} {a : Nat} (h : ∀ x, x ≠ a → I' x = I x) (ha : 39 ≤ a ∧ a ≤ 66) : zkp I I' := fun x hx => h x (by omega)
set_option maxHeartbeats 2000000 in
set_option maxRecDepth 20000 in
theorem c_X9_sum {lay : List zL} {I : zI} {J : zJ} {S : zS} (hC : kC lay) (hV : vC I J S) {w l p : Int32} : zMet lay MX9_sum 3 [.ref 0, .int w, .int l, .int p] I J (fun r I' J' => zPC I J (fsum S w l p) r I' J') := by
  refine zMet_of (t := MX9_sum) (ls := [.ref 0, .int w, .int l, .int p]) (by decide +kernel) (Nat.le_of_ble_eq_true rfl) rfl ?_
  obtain ⟨c0, ⟨cP, cG⟩, ⟨cX, cQ, cR⟩, ⟨cS, cB, cD⟩, cf1, cf2, cf3, cU⟩ := id hC
  have p0 : lay[1]? = some (.inl (2, [4, 8, 13, 16, 19])) := cP.1
  have s0 : kS lay 2 := cP.2.1
  obtain ⟨s1, s2, s3, s4⟩ := id s0
  have t0 : kT lay 6 := cP.2.2.1
  obtain ⟨t1, t2, t3, t4, t5⟩ := id t0
  have n5 : kN lay 11 5 := cP.2.2.2.1
  have n8 : kN lay 14 8 := cP.2.2.2.2.1
  have m8 : kN lay 17 8 := cP.2.2.2.2.2
  have w0 : vS I 2 S.n := hV.1.1.1
  have w1 : vT I J 6 S.n := hV.1.1.2.1
  have w5 : vN I 11 5 (S.n 4) (fun k => S.n (52 + k) / 100) (fun k => S.n (52 + k) % 100) := hV.1.1.2.2.1
  have w8 : vN I 14 8 (S.n 5) (fun k => S.n (57 + k) / 100) (fun k => S.n (57 + k) % 100) := hV.1.1.2.2.2.1
  have x8 : vN I 17 8 (S.n 6) (fun k => S.n (65 + k) / 100) (fun k => S.n (65 + k) % 100) := hV.1.1.2.2.2.2
  obtain ⟨v0, v1, v2, v3, v4, v5⟩ := id w0
  obtain ⟨y0, y1, y2⟩ := id w1
  have hb := hV.1.2
  have hB := hb.1
  have hT := hb.2.1
  obtain ⟨b1, b2, b3, b4, b5, b6, b7, b8⟩ := id hB
  have ox := cX.1
  have oq := cQ.1
  have ow := cR.1
  have od := cD.1
  have oe := cB.1
  have of1 := cS.1
  have of2 := cS.2.1
  have ou := cU.1
  have og := cG.1
  have on5 := n5.1
  have on8 := n8.1
  have om8 := m8.1
  have ov := cR.2.1.1
  have z1 := cf1
  have z2 := cf2
  have z3 := cf3
  unfold kF at z1 z2 z3
  refine z_aload_n (pc := 0) dX9_sum_0 rfl rfl ?_
  refine z_getR (pc := 1) dX9_sum_1 f_RX9_12 (by assumption) rfl ?_
  refine z_getR (pc := 4) dX9_sum_4 f_RX9_83 (by assumption) rfl ?_
  refine z_iload_n (pc := 7) dX9_sum_7 rfl rfl ?_
  refine z_iload_n (pc := 8) dX9_sum_8 rfl rfl ?_
  refine z_callV (pc := 9) (c_X6_hasLine s0 w0 hB) dX9_sum_9 l_RX9_112 m_MX6_hasLine n_MX6_hasLine e_MX6_hasLine rfl (by omega) (by assumption) rfl rfl (Nat.le_of_ble_eq_true rfl) ?_
  rintro _ _ _ ⟨⟨rfl, hc⟩ | ⟨rfl, hc⟩, rfl, rfl⟩
  · obtain ⟨a, b, rfl, rfl, ha, hbb⟩ := hc; have hz := zlines_le (w := a) b2 b4; have hk : 3 * a + b < 9 := (by omega)
    try dsimp only [zov, Option.toList, List.cons_append, List.nil_append]
    first | refine z_if_neN (pc := 12) (tgt := 19) (by with_reducible rfl) dX9_sum_12 (by decide) (by omega) (fun hb12 => ?_) (fun hb12 => absurd hb12 (by decide)) | refine z_if_ne (pc := 12) (tgt := 19) dX9_sum_12 (by decide) (fun hb12 => ?_) (fun hb12 => absurd hb12 (by decide))
    · skip
      refine z_aload_n (pc := 19) dX9_sum_19 rfl rfl ?_
      refine z_getR (pc := 20) dX9_sum_20 f_RX9_12 (by assumption) rfl ?_
      refine z_getR (pc := 23) dX9_sum_23 f_RX9_102 (by assumption) rfl ?_
      refine z_aload_n (pc := 26) dX9_sum_26 rfl rfl ?_
      refine z_getR (pc := 27) dX9_sum_27 f_RX9_12 (by assumption) rfl ?_
      refine z_getR (pc := 30) dX9_sum_30 f_RX9_83 (by assumption) rfl ?_
      refine z_iload_n (pc := 33) dX9_sum_33 rfl rfl ?_
      refine z_iload_n (pc := 34) dX9_sum_34 rfl rfl ?_
      refine z_aload_n (pc := 35) dX9_sum_35 rfl rfl ?_
      refine z_getR (pc := 36) dX9_sum_36 f_RX9_62 (by assumption) rfl ?_
      refine z_callV (pc := 39) (c_X7_isSummed s0 w0 hB t0 w1 hT cf1 (by omega) (by omega) ha (by omega)) dX9_sum_39 l_RX9_199 m_MX7_isSummed n_MX7_isSummed e_MX7_isSummed rfl (by omega) (by assumption) rfl rfl (Nat.le_of_ble_eq_true rfl) ?_
      rintro _ _ _ ⟨⟨rfl, q, hq, hq0, hq1⟩ | ⟨rfl, hq⟩, rfl, hj⟩
      · skip
        try dsimp only [zov, Option.toList, List.cons_append, List.nil_append]
        first | refine z_if_neN (pc := 42) (tgt := 49) (by with_reducible rfl) dX9_sum_42 (by decide) (by omega) (fun hb42 => ?_) (fun hb42 => absurd hb42 (by decide)) | refine z_if_ne (pc := 42) (tgt := 49) dX9_sum_42 (by decide) (fun hb42 => ?_) (fun hb42 => absurd hb42 (by decide))
        · skip
          refine z_aload_n (pc := 49) dX9_sum_49 rfl rfl ?_
          refine z_getR (pc := 50) dX9_sum_50 f_RX9_62 (by assumption) rfl ?_
          refine z_iload_n (pc := 53) dX9_sum_53 rfl rfl ?_
          refine z_callV (pc := 54) (c_X0_partOf z1 (by assumption) (by assumption)) dX9_sum_54 l_RX9_203 m_MX0_partOf n_MX0_partOf e_MX0_partOf rfl (by omega) (by assumption) rfl rfl (Nat.le_of_ble_eq_true rfl) ?_
          rintro _ _ _ ⟨⟨rfl, rfl⟩ | ⟨rfl, rfl⟩ | ⟨hp0, hp1, rfl⟩, rfl, rfl⟩
          · skip
            try dsimp only [zov, Option.toList, List.cons_append, List.nil_append]
            refine z_lret (pc := 57) dX9_sum_57 rfl ?_
            first
              | exact zPC_same hV (by rw [fsum, zLn_n hc]; rfl)
              | exact zPC_keep hV (zkp_r _) (zkp_1 hj (by omega)) (by rw [fsum, zLn_y b2 b4 ha hbb]; dsimp only; rw [hq]; rfl)
              | exact zPC_keep hV (zkp_r _) (zkp_1 hj (by omega)) (by rw [fsum, zLn_y b2 b4 ha hbb]; dsimp only; rw [hq]; dsimp only; rw [zpt_n hp0 hp1])
              | fail
          · skip
            try dsimp only [zov, Option.toList, List.cons_append, List.nil_append]
            refine z_lret (pc := 57) dX9_sum_57 rfl ?_
            first
              | exact zPC_same hV (by rw [fsum, zLn_n hc]; rfl)
              | exact zPC_keep hV (zkp_r _) (zkp_1 hj (by omega)) (by rw [fsum, zLn_y b2 b4 ha hbb]; dsimp only; rw [hq]; rfl)
              | exact zPC_keep hV (zkp_r _) (zkp_1 hj (by omega)) (by rw [fsum, zLn_y b2 b4 ha hbb]; dsimp only; rw [hq]; dsimp only; rw [zpt_n hp0 hp1])
              | fail
          · skip
            try dsimp only [zov, Option.toList, List.cons_append, List.nil_append]
            refine z_lret (pc := 57) dX9_sum_57 rfl ?_
            first
              | exact zPC_same hV (by rw [fsum, zLn_n hc]; rfl)
              | exact zPC_keep hV (zkp_r _) (zkp_1 hj (by omega)) (by rw [fsum, zLn_y b2 b4 ha hbb]; dsimp only; rw [hq]; rfl)
              | exact zPC_keep hV (zkp_r _) (zkp_1 hj (by omega)) (by rw [fsum, zLn_y b2 b4 ha hbb]; dsimp only; rw [hq]; dsimp only; rw [zpt_n hp0 hp1])
              | fail
      · skip
        try dsimp only [zov, Option.toList, List.cons_append, List.nil_append]
        first | refine z_if_neN (pc := 42) (tgt := 49) (by with_reducible rfl) dX9_sum_42 (by decide) (by omega) (fun hb42 => absurd hb42 (by decide)) (fun hb42 => ?_) | refine z_if_ne (pc := 42) (tgt := 49) dX9_sum_42 (by decide) (fun hb42 => absurd hb42 (by decide)) (fun hb42 => ?_)
        · skip
          refine z_ldc2 (pc := 45) (v := -9223372036854775808) dX9_sum_45 q_RX9_190 ?_
          refine z_lret (pc := 48) dX9_sum_48 rfl ?_
          first
            | exact zPC_same hV (by rw [fsum, zLn_n hc]; rfl)
            | exact zPC_keep hV (zkp_r _) (zkp_1 hj (by omega)) (by rw [fsum, zLn_y b2 b4 ha hbb]; dsimp only; rw [hq]; rfl)
            | exact zPC_keep hV (zkp_r _) (zkp_1 hj (by omega)) (by rw [fsum, zLn_y b2 b4 ha hbb]; dsimp only; rw [hq]; dsimp only; rw [zpt_n hp0 hp1])
            | fail
  · skip
    try dsimp only [zov, Option.toList, List.cons_append, List.nil_append]
    first | refine z_if_neN (pc := 12) (tgt := 19) (by with_reducible rfl) dX9_sum_12 (by decide) (by omega) (fun hb12 => absurd hb12 (by decide)) (fun hb12 => ?_) | refine z_if_ne (pc := 12) (tgt := 19) dX9_sum_12 (by decide) (fun hb12 => absurd hb12 (by decide)) (fun hb12 => ?_)
    · skip
      refine z_ldc2 (pc := 15) (v := -9223372036854775808) dX9_sum_15 q_RX9_190 ?_
      refine z_lret (pc := 18) dX9_sum_18 rfl ?_
      first
        | exact zPC_same hV (by rw [fsum, zLn_n hc]; rfl)
        | exact zPC_keep hV (zkp_r _) (zkp_1 hj (by omega)) (by rw [fsum, zLn_y b2 b4 ha hbb]; dsimp only; rw [hq]; rfl)
        | exact zPC_keep hV (zkp_r _) (zkp_1 hj (by omega)) (by rw [fsum, zLn_y b2 b4 ha hbb]; dsimp only; rw [hq]; dsimp only; rw [zpt_n hp0 hp1])
        | fail
