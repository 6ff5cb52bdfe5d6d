/-! ===== the class's calls: reading, to the end ===== -/
theorem zfa_le {len : Nat} {tx : Nat → Nat} : ∀ (f a e : Nat), zfa len tx f a = some e → e ≤ a + 6 * f + 5
  | 0, a, e, h => by cases h; omega
  | f + 1, a, e, h => by
    have h9 := zce_le (len := len) (tx := tx) (a := a)
    unfold zfa at h
    split at h
    · split at h
      · cases h
      · split at h
        · cases h; omega
        · have := zfa_le f _ e h; omega
    · cases h; omega
theorem zfa_n {len : Nat} {tx : Nat → Nat} {f a : Nat} (h : zfa len tx (f + 1) a = none) : (zce len tx a).1 = true ∧ (len ≤ (zce len tx a).2 + 1 ∨ zfa len tx f ((zce len tx a).2 + 1) = none) := by
  unfold zfa at h
  split at h
  · rename_i h1
    split at h
    · exact ⟨h1, Or.inl (by omega)⟩
    · split at h
      · cases h
      · exact ⟨h1, Or.inr h⟩
  · cases h
theorem zdoes_t {S : zS} {q : Nat × Nat × Nat × Nat} : ∃ n, (zdoes S q).2 = S.up n := by
  unfold zdoes
  split
  · unfold fsize
    split
    · split
      · exact ⟨_, rfl⟩
      · exact ⟨S.n, rfl⟩
    · exact ⟨S.n, rfl⟩
  · split
    · unfold ftell
      split
      · exact ⟨S.n, rfl⟩
      · split
        · exact ⟨S.n, rfl⟩
        · exact ⟨_, rfl⟩
    · split
      · unfold fmark
        split
        · exact ⟨S.n, rfl⟩
        · split
          · exact ⟨S.n, rfl⟩
          · exact ⟨_, rfl⟩
      · split
        · unfold fmargin
          split
          · exact ⟨S.n, rfl⟩
          · split
            · exact ⟨S.n, rfl⟩
            · exact ⟨_, rfl⟩
        · exact ⟨_, rfl⟩
theorem zge_le (v : Value) : zge v ≤ 1 := by
  unfold zge
  split
  · split <;> omega
  · omega
theorem zdo_e {len : Nat} {tx : Nat → Nat} {m a d : Nat} {S : zS} (h : len ≤ a) : zdo len tx m a d S = (d, S) := by
  cases m with
  | zero => rfl
  | succ m => unfold zdo; rw [if_pos h]
theorem zdo_s {len : Nat} {tx : Nat → Nat} {m a d : Nat} {S : zS} (h : ¬ len ≤ a) : zdo len tx (m + 1) a d S = zdo len tx m ((zce len tx a).2 + 1) (d + zge (zdoes S (zcl tx a (zce len tx a).2)).1) (zdoes S (zcl tx a (zce len tx a).2)).2 := by
  rw [zdo, if_neg h]
set_option maxHeartbeats 2000000 in
set_option maxRecDepth 20000 in
theorem l_X9_doClauses {lay : List zL} {Q : Value → zI → zJ → Prop} {d0 len : Nat} {tx : Nat → Nat} (hC : kC lay) (h100 : len ≤ 100) : ∀ (m c a d : Nat) (S : zS) (I : zI) (J : zJ) (w : Value), c + m = 12 → S.len = len → S.tx = tx → a ≤ 6 * c → d ≤ c → (len ≤ a ∨ zfa len tx m a = none) → vC I J S → (∀ I' J', vC I' J' (zdo len tx m a d S).2 → (∀ x, 78 < x → I' x = I x) → (∀ x, 78 < x → J' x = J x) → Q (.int (nI (zdo len tx m a d S).1)) I' J') → Z lay MX9_doClauses (d0 + 5) 6 [.ref 0, .int (nI d), .int (nI a), .int (nI c), w] [] I J Q := by
  intro m
  induction m with
  | zero =>
    intro c a d S I J w hc e1 e2 ha hd hz hV hq
    obtain ⟨c0, ⟨cP, cG⟩, ⟨cX, cQ, cR⟩, ⟨cS, cB, cD⟩, cf1, cf2, cf3, cU⟩ := id hC
    have p0 : lay[1]? = some (.inl (2, [4, 8, 13, 16, 19])) := cP.1
    have s0 : kS lay 2 := cP.2.1
    obtain ⟨s1, s2, s3, s4⟩ := id s0
    have t0 : kT lay 6 := cP.2.2.1
    obtain ⟨t1, t2, t3, t4, t5⟩ := id t0
    have n5 : kN lay 11 5 := cP.2.2.2.1
    have n8 : kN lay 14 8 := cP.2.2.2.2.1
    have m8 : kN lay 17 8 := cP.2.2.2.2.2
    have w0 : vS I 2 S.n := hV.1.1.1
    have w1 : vT I J 6 S.n := hV.1.1.2.1
    have w5 : vN I 11 5 (S.n 4) (fun k => S.n (52 + k) / 100) (fun k => S.n (52 + k) % 100) := hV.1.1.2.2.1
    have w8 : vN I 14 8 (S.n 5) (fun k => S.n (57 + k) / 100) (fun k => S.n (57 + k) % 100) := hV.1.1.2.2.2.1
    have x8 : vN I 17 8 (S.n 6) (fun k => S.n (65 + k) / 100) (fun k => S.n (65 + k) % 100) := hV.1.1.2.2.2.2
    obtain ⟨v0, v1, v2, v3, v4, v5⟩ := id w0
    obtain ⟨y0, y1, y2⟩ := id w1
    have hbN := hV.1.2
    have hB := hbN.1
    have hT := hbN.2.1
    obtain ⟨b1, b2, b3, b4, b5, b6, b7, b8⟩ := id hB
    have ox := cX.1
    have oq := cQ.1
    have ow := cR.1
    have od := cD.1
    have oe := cB.1
    have of1 := cS.1
    have of2 := cS.2.1
    have ou := cU.1
    have og := cG.1
    have on5 := n5.1
    have on8 := n8.1
    have om8 := m8.1
    have ov := cR.2.1.1
    have z1 := cf1
    have z2 := cf2
    have z3 := cf3
    unfold kF at z1 z2 z3
    obtain rfl : c = 12 := (by omega)
    refine z_iload_n (pc := 6) dX9_doClauses_6 rfl rfl ?_
    refine z_bipush (pc := 7) (v := nI 12) dX9_doClauses_7 (by decide) ?_
    first | refine z_icmp_geN (pc := 9) (tgt := 64) (by with_reducible rfl) (by with_reducible rfl) dX9_doClauses_9 (by decide) (by omega) (by omega) (fun hb9 => ?_) (fun hb9 => absurd hb9 (by omega)) | refine z_icmp_ge (pc := 9) (tgt := 64) dX9_doClauses_9 (by decide) (fun hb9 => ?_) (fun hb9 => absurd hb9 (by omega))
    · skip
      refine z_iload_n (pc := 64) dX9_doClauses_64 rfl rfl ?_
      refine z_iret (pc := 65) dX9_doClauses_65 rfl ?_
      exact hq I J hV (fun _ _ => rfl) (fun _ _ => rfl)
  | succ m ih =>
    intro c a d S I J w hc e1 e2 ha hd hz hV hq
    obtain ⟨c0, ⟨cP, cG⟩, ⟨cX, cQ, cR⟩, ⟨cS, cB, cD⟩, cf1, cf2, cf3, cU⟩ := id hC
    have p0 : lay[1]? = some (.inl (2, [4, 8, 13, 16, 19])) := cP.1
    have s0 : kS lay 2 := cP.2.1
    obtain ⟨s1, s2, s3, s4⟩ := id s0
    have t0 : kT lay 6 := cP.2.2.1
    obtain ⟨t1, t2, t3, t4, t5⟩ := id t0
    have n5 : kN lay 11 5 := cP.2.2.2.1
    have n8 : kN lay 14 8 := cP.2.2.2.2.1
    have m8 : kN lay 17 8 := cP.2.2.2.2.2
    have w0 : vS I 2 S.n := hV.1.1.1
    have w1 : vT I J 6 S.n := hV.1.1.2.1
    have w5 : vN I 11 5 (S.n 4) (fun k => S.n (52 + k) / 100) (fun k => S.n (52 + k) % 100) := hV.1.1.2.2.1
    have w8 : vN I 14 8 (S.n 5) (fun k => S.n (57 + k) / 100) (fun k => S.n (57 + k) % 100) := hV.1.1.2.2.2.1
    have x8 : vN I 17 8 (S.n 6) (fun k => S.n (65 + k) / 100) (fun k => S.n (65 + k) % 100) := hV.1.1.2.2.2.2
    obtain ⟨v0, v1, v2, v3, v4, v5⟩ := id w0
    obtain ⟨y0, y1, y2⟩ := id w1
    have hbN := hV.1.2
    have hB := hbN.1
    have hT := hbN.2.1
    obtain ⟨b1, b2, b3, b4, b5, b6, b7, b8⟩ := id hB
    have ox := cX.1
    have oq := cQ.1
    have ow := cR.1
    have od := cD.1
    have oe := cB.1
    have of1 := cS.1
    have of2 := cS.2.1
    have ou := cU.1
    have og := cG.1
    have on5 := n5.1
    have on8 := n8.1
    have om8 := m8.1
    have ov := cR.2.1.1
    have z1 := cf1
    have z2 := cf2
    have z3 := cf3
    unfold kF at z1 z2 z3
    have hlen : I 67 1 = nI len := by rw [← e1]; exact hV.2.2.2.1.1
    refine z_iload_n (pc := 6) dX9_doClauses_6 rfl rfl ?_
    refine z_bipush (pc := 7) (v := nI 12) dX9_doClauses_7 (by decide) ?_
    first | refine z_icmp_geN (pc := 9) (tgt := 64) (by with_reducible rfl) (by with_reducible rfl) dX9_doClauses_9 (by decide) (by omega) (by omega) (fun hb9 => absurd hb9 (by omega)) (fun hb9 => ?_) | refine z_icmp_ge (pc := 9) (tgt := 64) dX9_doClauses_9 (by decide) (fun hb9 => absurd hb9 (by omega)) (fun hb9 => ?_)
    · skip
      refine z_iload_n (pc := 12) dX9_doClauses_12 rfl rfl ?_
      refine z_aload_n (pc := 13) dX9_doClauses_13 rfl rfl ?_
      refine z_getR (pc := 14) dX9_doClauses_14 f_RX9_24 (by assumption) rfl ?_
      refine z_getIv (pc := 17) dX9_doClauses_17 f_RX9_136 (by assumption) rfl (by first | assumption | exact v3 _ (by omega) | exact v4 _ (by omega) | exact v5 _ (by omega) | exact y0 _ (by omega) | exact y1 _ (by omega) | rfl) ?_
      first | refine z_icmp_geN (pc := 20) (tgt := 64) (by with_reducible rfl) (by with_reducible rfl) dX9_doClauses_20 (by decide) (by omega) (by omega) (fun hb20 => ?_) (fun hb20 => ?_) | refine z_icmp_ge (pc := 20) (tgt := 64) dX9_doClauses_20 (by decide) (fun hb20 => ?_) (fun hb20 => ?_)
      · skip
        refine z_iload_n (pc := 64) dX9_doClauses_64 rfl rfl ?_
        refine z_iret (pc := 65) dX9_doClauses_65 rfl ?_
        first
          | exact hq I J (by rw [zdo_e (by omega)]; exact hV) (fun _ _ => rfl) (fun _ _ => rfl)
          | (rw [zdo_e (by omega)] at hq; exact hq I J hV (fun _ _ => rfl) (fun _ _ => rfl))
          | exact hb35.elim
          | fail
      · skip
        obtain ⟨hz1, hz2⟩ := zfa_n (hz.resolve_left (by omega))
        have hkd := zce_kd hz1
        have hle := zce_le (len := len) (tx := tx) (a := a)
        obtain ⟨e, he⟩ : ∃ e, e = (zce len tx a).2 := ⟨_, rfl⟩
        have hcz : zco (zce S.len S.tx a) = nI e := by rw [e1, e2, zco_t hz1, he]
        have hkd2 : zkd S.len S.tx a e := by rw [e1, e2, he]; exact hkd
        obtain ⟨n9, hn9⟩ := zdoes_t (S := S) (q := zcl tx a e)
        have hg1 := zge_le (zdoes S (zcl tx a e)).1
        have hzd : zdo len tx (m + 1) a d S = zdo len tx m (e + 1) (d + zge (zdoes S (zcl tx a e)).1) (zdoes S (zcl tx a e)).2 := by rw [zdo_s (by omega), he]
        rw [← he] at hz2 hle
        refine z_aload_n (pc := 23) dX9_doClauses_23 rfl rfl ?_
        refine z_getR (pc := 24) dX9_doClauses_24 f_RX9_24 (by assumption) rfl ?_
        refine z_iload_n (pc := 27) dX9_doClauses_27 rfl rfl ?_
        refine z_callV (pc := 28) (c_X5_clauseEnd cX (show vX I 67 S.len S.tx from hV.2.2.2.1) (by omega)) dX9_doClauses_28 l_RX9_140 m_MX5_clauseEnd n_MX5_clauseEnd e_MX5_clauseEnd rfl (by omega) (by assumption) rfl rfl (Nat.le_of_ble_eq_true rfl) ?_
        rintro _ _ _ (⟨rfl, rfl, rfl⟩)
        rw [hcz]
        try dsimp only [zov, Option.toList, List.cons_append, List.nil_append]
        refine z_istore (pc := 31) dX9_doClauses_31 (by decide) rfl ?_
        try dsimp only [zst1, zst2, zk]
        refine z_iload (pc := 33) dX9_doClauses_33 rfl ?_
        first | refine z_if_geN (pc := 35) (tgt := 40) (by with_reducible rfl) dX9_doClauses_35 (by decide) (by omega) (fun hb35 => ?_) (fun hb35 => ?_) | refine z_if_ge (pc := 35) (tgt := 40) dX9_doClauses_35 (by decide) (fun hb35 => ?_) (fun hb35 => ?_)
        · skip
          refine z_aload_n (pc := 40) dX9_doClauses_40 rfl rfl ?_
          refine z_iload_n (pc := 41) dX9_doClauses_41 rfl rfl ?_
          refine z_iload (pc := 42) dX9_doClauses_42 rfl ?_
          refine z_callV (pc := 44) (c_X9_isClauseDone hC hV hkd2) dX9_doClauses_44 l_RX9_143 m_MX9_isClauseDone n_MX9_isClauseDone e_MX9_isClauseDone rfl (by omega) (by assumption) rfl rfl (Nat.le_of_ble_eq_true rfl) ?_
          rintro _ _ _ (⟨rfl, hV2, hi, hj⟩)
          rw [e2] at hV2
          rw [e2]
          try dsimp only [zov, Option.toList, List.cons_append, List.nil_append]
          first | refine z_if_eqN (pc := 47) (tgt := 53) (by with_reducible rfl) dX9_doClauses_47 (by decide) (by omega) (fun hb47 => ?_) (fun hb47 => ?_) | refine z_if_eq (pc := 47) (tgt := 53) dX9_doClauses_47 (by decide) (fun hb47 => ?_) (fun hb47 => ?_)
          · skip
            refine z_iload (pc := 53) dX9_doClauses_53 rfl ?_
            refine z_iconst (pc := 55) (v := nI 1) dX9_doClauses_55 (by decide) ?_
            first | refine z_iaddN (pc := 56) (by with_reducible rfl) (by with_reducible rfl) dX9_doClauses_56 ?_ | refine z_iadd (pc := 56) dX9_doClauses_56 ?_
            refine z_istore_n (pc := 57) dX9_doClauses_57 rfl (by decide) rfl ?_
            try dsimp only [zst1, zst2, zk]
            first | refine z_iincN (pc := 58) (c := 1) dX9_doClauses_58 rfl (by with_reducible rfl) (by decide) (by decide) rfl ?_ | refine z_iinc (pc := 58) dX9_doClauses_58 rfl rfl (by decide) rfl ?_
            try dsimp only [zst1, zst2, zk]
            refine z_goto (pc := 61) (tgt := 6) dX9_doClauses_61 (by decide) ?_
            first
              | exact ih (c + 1) (e + 1) (d + 1) (zdoes S (zcl tx a e)).2 _ _ _ (by omega) (by rw [hn9]; exact e1) (by rw [hn9]; exact e2) (by omega) (by omega) hz2 hV2 (fun I9 J9 h1 h2 h3 => by
                  have e9 : zge (zdoes S (zcl tx a e)).1 = 1 := by omega
                  rw [e9] at hzd
                  rw [← hzd] at h1 ⊢
                  exact hq I9 J9 h1 (fun x hx => (h2 x hx).trans (hi x hx)) (fun x hx => (h3 x hx).trans (hj x hx)))
              | exact ih (c + 1) (e + 1) d (zdoes S (zcl tx a e)).2 _ _ _ (by omega) (by rw [hn9]; exact e1) (by rw [hn9]; exact e2) (by omega) (by omega) hz2 hV2 (fun I9 J9 h1 h2 h3 => by
                  have e9 : d + zge (zdoes S (zcl tx a e)).1 = d := by omega
                  rw [e9] at hzd
                  rw [← hzd] at h1 ⊢
                  exact hq I9 J9 h1 (fun x hx => (h2 x hx).trans (hi x hx)) (fun x hx => (h3 x hx).trans (hj x hx)))
          · skip
            first | refine z_iincN (pc := 50) (c := 1) dX9_doClauses_50 rfl (by with_reducible rfl) (by decide) (by decide) rfl ?_ | refine z_iinc (pc := 50) dX9_doClauses_50 rfl rfl (by decide) rfl ?_
            try dsimp only [zst1, zst2, zk]
            refine z_iload (pc := 53) dX9_doClauses_53 rfl ?_
            refine z_iconst (pc := 55) (v := nI 1) dX9_doClauses_55 (by decide) ?_
            first | refine z_iaddN (pc := 56) (by with_reducible rfl) (by with_reducible rfl) dX9_doClauses_56 ?_ | refine z_iadd (pc := 56) dX9_doClauses_56 ?_
            refine z_istore_n (pc := 57) dX9_doClauses_57 rfl (by decide) rfl ?_
            try dsimp only [zst1, zst2, zk]
            first | refine z_iincN (pc := 58) (c := 1) dX9_doClauses_58 rfl (by with_reducible rfl) (by decide) (by decide) rfl ?_ | refine z_iinc (pc := 58) dX9_doClauses_58 rfl rfl (by decide) rfl ?_
            try dsimp only [zst1, zst2, zk]
            refine z_goto (pc := 61) (tgt := 6) dX9_doClauses_61 (by decide) ?_
            first
              | exact ih (c + 1) (e + 1) (d + 1) (zdoes S (zcl tx a e)).2 _ _ _ (by omega) (by rw [hn9]; exact e1) (by rw [hn9]; exact e2) (by omega) (by omega) hz2 hV2 (fun I9 J9 h1 h2 h3 => by
                  have e9 : zge (zdoes S (zcl tx a e)).1 = 1 := by omega
                  rw [e9] at hzd
                  rw [← hzd] at h1 ⊢
                  exact hq I9 J9 h1 (fun x hx => (h2 x hx).trans (hi x hx)) (fun x hx => (h3 x hx).trans (hj x hx)))
              | exact ih (c + 1) (e + 1) d (zdoes S (zcl tx a e)).2 _ _ _ (by omega) (by rw [hn9]; exact e1) (by rw [hn9]; exact e2) (by omega) (by omega) hz2 hV2 (fun I9 J9 h1 h2 h3 => by
                  have e9 : d + zge (zdoes S (zcl tx a e)).1 = d := by omega
                  rw [e9] at hzd
                  rw [← hzd] at h1 ⊢
                  exact hq I9 J9 h1 (fun x hx => (h2 x hx).trans (hi x hx)) (fun x hx => (h3 x hx).trans (hj x hx)))
        · skip
          refine z_iload_n (pc := 38) dX9_doClauses_38 rfl rfl ?_
          refine z_iret (pc := 39) dX9_doClauses_39 rfl ?_
          first
            | exact hq I J (by rw [zdo_e (by omega)]; exact hV) (fun _ _ => rfl) (fun _ _ => rfl)
            | (rw [zdo_e (by omega)] at hq; exact hq I J hV (fun _ _ => rfl) (fun _ _ => rfl))
            | exact hb35.elim
            | fail
theorem zdo_t {len : Nat} {tx : Nat → Nat} : ∀ (m a d : Nat) (S : zS), ∃ n, (zdo len tx m a d S).2 = S.up n
  | 0, _, _, S => ⟨S.n, rfl⟩
  | m + 1, a, d, S => by
    by_cases h : len ≤ a
    · rw [zdo_e h]; exact ⟨S.n, rfl⟩
    · rw [zdo_s h]
      obtain ⟨n1, h1⟩ := zdoes_t (S := S) (q := zcl tx a (zce len tx a).2)
      obtain ⟨n2, h2⟩ := zdo_t m ((zce len tx a).2 + 1) (d + zge (zdoes S (zcl tx a (zce len tx a).2)).1) (zdoes S (zcl tx a (zce len tx a).2)).2
      exact ⟨n2, by rw [h2, h1]; rfl⟩
theorem fread_n {S : zS} (h : zfa S.len S.tx 12 0 = none) : fread S = (.int (nI (zdo S.len S.tx 12 0 0 S).1), (zdo S.len S.tx 12 0 0 S).2.upX 0 S.tx) := by rw [fread, h]
theorem fread_s {S : zS} {e : Nat} (h : zfa S.len S.tx 12 0 = some e) : fread S = (.int (-10 - nI e), S.upX 0 S.tx) := by rw [fread, h]
theorem vX_0 {I : zI} {len : Nat} {tx tx' : Nat → Nat} : vX (zup I 67 1 (nI 0)) 67 0 tx' := ⟨zup_s _ _ _ _, Nat.zero_le _, fun k hk => absurd hk (by omega), fun k hk => absurd hk (by omega)⟩
set_option maxHeartbeats 2000000 in
set_option maxRecDepth 20000 in
theorem c_X9_doClauses {lay : List zL} {I : zI} {J : zJ} {S : zS} (hC : kC lay) (hV : vC I J S) (hf : zfa S.len S.tx 12 0 = none) : zMet lay MX9_doClauses 5 [.ref 0] I J (fun r I' J' => r = .int (nI (zdo S.len S.tx 12 0 0 S).1) ∧ vC I' J' (zdo S.len S.tx 12 0 0 S).2 ∧ (∀ x, 78 < x → I' x = I x) ∧ ∀ x, 78 < x → J' x = J x) := by
  refine zMet_of (t := MX9_doClauses) (ls := [.ref 0, .null, .null, .null, .null]) (by decide +kernel) (Nat.le_of_ble_eq_true rfl) rfl ?_
  refine z_iconst (pc := 0) (v := nI 0) dX9_doClauses_0 (by decide) ?_
  refine z_istore_n (pc := 1) dX9_doClauses_1 rfl (by decide) rfl ?_
  try dsimp only [zst1, zst2, zk]
  refine z_iconst (pc := 2) (v := nI 0) dX9_doClauses_2 (by decide) ?_
  refine z_istore_n (pc := 3) dX9_doClauses_3 rfl (by decide) rfl ?_
  try dsimp only [zst1, zst2, zk]
  refine z_iconst (pc := 4) (v := nI 0) dX9_doClauses_4 (by decide) ?_
  refine z_istore_n (pc := 5) dX9_doClauses_5 rfl (by decide) rfl ?_
  try dsimp only [zst1, zst2, zk]
  exact l_X9_doClauses hC hV.2.2.2.1.2.1 12 0 0 0 S I J _ (by omega) rfl rfl (by omega) (by omega) (Or.inr hf) hV (fun I9 J9 h1 h2 h3 => ⟨rfl, h1, h2, h3⟩)
set_option maxHeartbeats 2000000 in
set_option maxRecDepth 20000 in
theorem c_X9_read {lay : List zL} {I : zI} {J : zJ} {S : zS} (hC : kC lay) (hV : vC I J S) : zMet lay MX9_read 6 [.ref 0] I J (fun r I' J' => zPC I J (fread S) r I' J') := by
  refine zMet_of (t := MX9_read) (ls := [.ref 0, .null, .null]) (by decide +kernel) (Nat.le_of_ble_eq_true rfl) rfl ?_
  obtain ⟨c0, ⟨cP, cG⟩, ⟨cX, cQ, cR⟩, ⟨cS, cB, cD⟩, cf1, cf2, cf3, cU⟩ := id hC
  have p0 : lay[1]? = some (.inl (2, [4, 8, 13, 16, 19])) := cP.1
  have s0 : kS lay 2 := cP.2.1
  obtain ⟨s1, s2, s3, s4⟩ := id s0
  have t0 : kT lay 6 := cP.2.2.1
  obtain ⟨t1, t2, t3, t4, t5⟩ := id t0
  have n5 : kN lay 11 5 := cP.2.2.2.1
  have n8 : kN lay 14 8 := cP.2.2.2.2.1
  have m8 : kN lay 17 8 := cP.2.2.2.2.2
  have w0 : vS I 2 S.n := hV.1.1.1
  have w1 : vT I J 6 S.n := hV.1.1.2.1
  have w5 : vN I 11 5 (S.n 4) (fun k => S.n (52 + k) / 100) (fun k => S.n (52 + k) % 100) := hV.1.1.2.2.1
  have w8 : vN I 14 8 (S.n 5) (fun k => S.n (57 + k) / 100) (fun k => S.n (57 + k) % 100) := hV.1.1.2.2.2.1
  have x8 : vN I 17 8 (S.n 6) (fun k => S.n (65 + k) / 100) (fun k => S.n (65 + k) % 100) := hV.1.1.2.2.2.2
  obtain ⟨v0, v1, v2, v3, v4, v5⟩ := id w0
  obtain ⟨y0, y1, y2⟩ := id w1
  have hbN := hV.1.2
  have hB := hbN.1
  have hT := hbN.2.1
  obtain ⟨b1, b2, b3, b4, b5, b6, b7, b8⟩ := id hB
  have ox := cX.1
  have oq := cQ.1
  have ow := cR.1
  have od := cD.1
  have oe := cB.1
  have of1 := cS.1
  have of2 := cS.2.1
  have ou := cU.1
  have og := cG.1
  have on5 := n5.1
  have on8 := n8.1
  have om8 := m8.1
  have ov := cR.2.1.1
  have z1 := cf1
  have z2 := cf2
  have z3 := cf3
  unfold kF at z1 z2 z3
  cases hf : zfa S.len S.tx 12 0 with
  | none =>
    refine z_aload_n (pc := 0) dX9_read_0 rfl rfl ?_
    refine z_getR (pc := 1) dX9_read_1 f_RX9_24 (by assumption) rfl ?_
    refine z_callV (pc := 4) (c_X5_fault cX (show vX I 67 S.len S.tx from hV.2.2.2.1)) dX9_read_4 l_RX9_130 m_MX5_fault n_MX5_fault e_MX5_fault rfl (by omega) (by assumption) rfl rfl (Nat.le_of_ble_eq_true rfl) ?_
    rintro _ _ _ (⟨rfl, rfl, rfl⟩)
    rw [hf]; dsimp only [zfc]
    try dsimp only [zov, Option.toList, List.cons_append, List.nil_append]
    refine z_istore_n (pc := 7) dX9_read_7 rfl (by decide) rfl ?_
    try dsimp only [zst1, zst2, zk]
    refine z_iload_n (pc := 8) dX9_read_8 rfl rfl ?_
    refine z_if_lt (pc := 9) (tgt := 19) dX9_read_9 (by decide) (fun hb9 => ?_) (fun hb9 => absurd hb9 (by decide))
    · skip
      refine z_aload_n (pc := 19) dX9_read_19 rfl rfl ?_
      refine z_callV (pc := 20) (c_X9_doClauses hC hV hf) dX9_read_20 l_RX9_133 m_MX9_doClauses n_MX9_doClauses e_MX9_doClauses rfl (by omega) (by assumption) rfl rfl (Nat.le_of_ble_eq_true rfl) ?_
      rintro _ _ _ (⟨rfl, hV2, hi, hj⟩)
      try dsimp only [zov, Option.toList, List.cons_append, List.nil_append]
      refine z_istore_n (pc := 23) dX9_read_23 rfl (by decide) rfl ?_
      try dsimp only [zst1, zst2, zk]
      refine z_aload_n (pc := 24) dX9_read_24 rfl rfl ?_
      refine z_getR (pc := 25) dX9_read_25 f_RX9_24 (by assumption) rfl ?_
      refine z_iconst (pc := 28) (v := nI 0) dX9_read_28 (by decide) ?_
      refine z_putI (pc := 29) dX9_read_29 f_RX9_136 (by assumption) rfl ?_
      refine z_iload_n (pc := 32) dX9_read_32 rfl rfl ?_
      refine z_iret (pc := 33) dX9_read_33 rfl ?_
      rw [fread_n hf]
      exact ⟨rfl, vC_text hV2 (fun x h1 h2 => zup_o h1) (vX_0 (len := 0) (tx := S.tx)), fun x hx => (zup_o (by omega)).trans (hi x hx), hj⟩
  | some e =>
    have hle := zfa_le _ _ _ hf
    refine z_aload_n (pc := 0) dX9_read_0 rfl rfl ?_
    refine z_getR (pc := 1) dX9_read_1 f_RX9_24 (by assumption) rfl ?_
    refine z_callV (pc := 4) (c_X5_fault cX (show vX I 67 S.len S.tx from hV.2.2.2.1)) dX9_read_4 l_RX9_130 m_MX5_fault n_MX5_fault e_MX5_fault rfl (by omega) (by assumption) rfl rfl (Nat.le_of_ble_eq_true rfl) ?_
    rintro _ _ _ (⟨rfl, rfl, rfl⟩)
    rw [hf]; dsimp only [zfc]
    try dsimp only [zov, Option.toList, List.cons_append, List.nil_append]
    refine z_istore_n (pc := 7) dX9_read_7 rfl (by decide) rfl ?_
    try dsimp only [zst1, zst2, zk]
    refine z_iload_n (pc := 8) dX9_read_8 rfl rfl ?_
    refine z_if_lt (pc := 9) (tgt := 19) dX9_read_9 (by decide) (fun hb9 => absurd hb9 (nI_pos (show e < 2147483648 by omega))) (fun hb9 => ?_)
    · skip
      refine z_bipush (pc := 12) (v := -10) dX9_read_12 (by decide) ?_
      refine z_iload_n (pc := 14) dX9_read_14 rfl rfl ?_
      first | refine z_isubN (pc := 15) (by with_reducible rfl) (by with_reducible rfl) dX9_read_15 (by omega) ?_ | refine z_isub (pc := 15) dX9_read_15 ?_
      refine z_goto (pc := 16) (tgt := 23) dX9_read_16 (by decide) ?_
      refine z_istore_n (pc := 23) dX9_read_23 rfl (by decide) rfl ?_
      try dsimp only [zst1, zst2, zk]
      refine z_aload_n (pc := 24) dX9_read_24 rfl rfl ?_
      refine z_getR (pc := 25) dX9_read_25 f_RX9_24 (by assumption) rfl ?_
      refine z_iconst (pc := 28) (v := nI 0) dX9_read_28 (by decide) ?_
      refine z_putI (pc := 29) dX9_read_29 f_RX9_136 (by assumption) rfl ?_
      refine z_iload_n (pc := 32) dX9_read_32 rfl rfl ?_
      refine z_iret (pc := 33) dX9_read_33 rfl ?_
      rw [fread_s hf]
      exact ⟨rfl, vC_text hV (fun x h1 h2 => zup_o h1) (vX_0 (len := 0) (tx := S.tx)), fun x hx => zup_o (by omega), fun _ _ => rfl⟩
