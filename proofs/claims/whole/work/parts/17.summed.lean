/-! ===== a line's sum ===== -/
def zbd (p : Nat × Nat) : Prop := p.1 ≤ 999999 ∧ 1 ≤ p.2 ∧ p.2 ≤ 999999
theorem zok_bd {x y : Nat} (hy : 0 < y) (h : zok (zred x y) = true) : zbd (zred x y) := by
  have h1 := of_decide_eq_true h
  exact ⟨h1.1, zred_pos hy, h1.2⟩
theorem zadd_bd {ab bl : Nat → Nat} {P : Nat → Bool} (h : ∀ k, k < 9 → 1 ≤ bl k) : ∀ (l : List Nat) (p q : Nat × Nat), (∀ k ∈ l, k < 9) → zbd p → zadd ab bl P l p = some q → zbd q
  | [], p, q, _, hp, e => by
    cases e
    exact hp
  | k :: l, p, q, hl, hp, e => by
    simp only [zadd] at e
    split at e
    · split at e
      · rename_i h1 h2
        refine zadd_bd h l _ q (fun a ha => hl a (List.mem_cons_of_mem _ ha)) (zok_bd (Nat.mul_pos hp.2.1 (h k (hl k List.mem_cons_self))) h2) e
      · cases e
    · exact zadd_bd h l p q (fun a ha => hl a (List.mem_cons_of_mem _ ha)) hp e
theorem zlf_lt (r c : Nat) : ∀ (m k : Nat), k + m ≤ 9 → ∀ a ∈ zlf r c m k, a < 9
  | 0, _, _, a, h => by simp [zlf] at h
  | m + 1, k, hk, a, h => by
    simp only [zlf] at h
    split at h
    · rcases List.mem_cons.mp h with rfl | h
      · omega
      · exact zlf_lt r c m (k + 1) (by omega) a h
    · exact zlf_lt r c m (k + 1) (by omega) a h
theorem zl_lt {r c k : Nat} : ∀ a ∈ zl r c k, a < 9 := by
  rcases Nat.lt_or_ge k 10 with q | q
  · exact zlf_lt r c (9 - k) k (by omega)
  · intro a h
    unfold zl at h
    rw [show 9 - k = 0 by omega] at h
    simp [zlf] at h
theorem zsm_bd {n m : Nat → Nat} (hm : bT m) {w l : Nat} {q : Nat × Nat} (h : zsm n m w l = some q) : zbd q :=
  zadd_bd (fun k hk => (hm k hk).2.1) _ _ _ zl_lt ⟨by decide, by decide, by decide⟩ h
theorem zf0 {J : zJ} {f : Nat} {a b : Int64} : zup (zup J f 0 a) f 1 b f 0 = a := by simp [zup]
theorem zf1 {J : zJ} {f : Nat} {a b : Int64} : zup (zup J f 0 a) f 1 b f 1 = b := by simp [zup]
abbrev zP (n : Nat → Nat) (w l : Nat) : Nat → Bool := fun k => decide (zline (fun k => n (16 + k)) w k = l)
set_option maxHeartbeats 2000000 in
set_option maxRecDepth 20000 in
theorem l_X7_isSummed {lay : List zL} {Q : Value → zI → zJ → Prop} {I : zI} {d s t f w l : Nat} {n m1 : Nat → Nat} {J0 : zJ} (hS : kS lay s) (hV : vS I s n) (hB : bS n) (hT : kT lay t) (hb : bT m1) (hf : lay[f]? = some (.inl (0, [1, 1]))) (hf1 : f ≠ t + 1) (hf2 : f ≠ t + 2) (hw : w ≤ 2) (hl : l < 2147483648) : ∀ (m i j : Nat) (p : Nat × Nat) (J : zJ), 4 * (n 0 - i) + (n 1 - j) < m → i < n 0 → j ≤ n 1 → vT I J t m1 → J f 0 = lN p.1 → J f 1 = lN p.2 → zbd p → (∀ x, x ≠ f → J x = J0 x) → (∀ q J', zadd (fun k => m1 (34 + k)) (fun k => m1 (43 + k)) (zP n w l) (zl (n 0) (n 1) (3 * i + j)) p = some q → J' f 0 = lN q.1 → J' f 1 = lN q.2 → (∀ x, x ≠ f → J' x = J0 x) → Q (.int (nI 1)) I J') → (zadd (fun k => m1 (34 + k)) (fun k => m1 (43 + k)) (zP n w l) (zl (n 0) (n 1) (3 * i + j)) p = none → ∀ J', (∀ x, x ≠ f → J' x = J0 x) → Q (.int (nI 0)) I J') → Z lay MX7_isSummed (d + 2) 22 [.ref t, .ref s, .int (nI w), .int (nI l), .ref f, .int (nI i), .int (nI j)] [] I J Q := by
  have hS' := hS
  have hV' := hV
  have hB' := hB
  obtain ⟨h1, h2, h3, h4⟩ := hS
  obtain ⟨v0, v1, v2, v3, v4, v5⟩ := hV
  obtain ⟨b1, b2, b3, b4, b5, b6, b7, b8⟩ := hB
  have hT' := hT
  obtain ⟨t1, t2, t3, t4, t5⟩ := hT
  intro m
  induction m with
  | zero => intro i j p J h; exact absurd h (by omega)
  | succ m ih =>
    intro i j p J hm hi hj hU hp0 hp1 hp hfr hq hn
    obtain ⟨w0, w1, w2⟩ := id hU
    refine z_iload (pc := 22) dX7_isSummed_22 rfl ?_
    refine z_aload_n (pc := 24) dX7_isSummed_24 rfl rfl ?_
    refine z_getIv (pc := 25) dX7_isSummed_25 f_RX7_53 (by assumption) rfl (by first | assumption | exact v3 _ (by omega) | exact v4 _ (by omega) | exact v5 _ (by omega) | exact w0 _ (by omega) | exact w1 _ (by omega) | rfl) ?_
    first | refine z_icmp_geN (pc := 28) (tgt := 92) (by with_reducible rfl) (by with_reducible rfl) dX7_isSummed_28 (by decide) (by omega) (by omega) (fun hb28 => ?_) (fun hb28 => ?_) | refine z_icmp_ge (pc := 28) (tgt := 92) dX7_isSummed_28 (by decide) (fun hb28 => ?_) (fun hb28 => ?_)
    · skip
      first | refine z_iincN (pc := 92) (c := 1) dX7_isSummed_92 rfl (by with_reducible rfl) (by decide) (by decide) rfl ?_ | refine z_iinc (pc := 92) dX7_isSummed_92 rfl rfl (by decide) rfl ?_
      try dsimp only [zst1, zst2, zk]
      refine z_goto (pc := 95) (tgt := 10) dX7_isSummed_95 (by decide) ?_
      refine z_iload (pc := 10) dX7_isSummed_10 rfl ?_
      refine z_aload_n (pc := 12) dX7_isSummed_12 rfl rfl ?_
      refine z_getIv (pc := 13) dX7_isSummed_13 f_RX7_50 (by assumption) rfl (by first | assumption | exact v3 _ (by omega) | exact v4 _ (by omega) | exact v5 _ (by omega) | exact w0 _ (by omega) | exact w1 _ (by omega) | rfl) ?_
      first | refine z_icmp_geN (pc := 16) (tgt := 98) (by with_reducible rfl) (by with_reducible rfl) dX7_isSummed_16 (by decide) (by omega) (by omega) (fun hb16 => ?_) (fun hb16 => ?_) | refine z_icmp_ge (pc := 16) (tgt := 98) dX7_isSummed_16 (by decide) (fun hb16 => ?_) (fun hb16 => ?_)
      · skip
        refine z_iconst (pc := 98) (v := nI 1) dX7_isSummed_98 (by decide) ?_
        refine z_zret (pc := 99) dX7_isSummed_99 rfl (by first | decide | assumption) ?_
        first
          | (obtain rfl : j = n 1 := (by omega); obtain h9 : i + 1 = n 0 := (by omega); exact hq p J (by rw [zl_row _ b2 _ b4 _ hi, h9, zl_end _ b2 _ b4]; rfl) hp0 hp1 hfr)
          | exact hn (by rw [zl_in _ b2 _ b4 _ hi _ (by omega)]; simp only [zadd]; rw [if_pos (by rw [decide_eq_true_eq]; exact hb41), hF2]; rfl) _ (fun x hx => by rw [zup_o hx, zup_o hx]; exact hfr x hx)
          | fail
      · skip
        refine z_iconst (pc := 19) (v := nI 0) dX7_isSummed_19 (by decide) ?_
        refine z_istore (pc := 20) dX7_isSummed_20 (by decide) rfl ?_
        try dsimp only [zst1, zst2, zk]
        have eP : zP n w l (3 * i + j) = decide (zline (fun k => n (16 + k)) w (3 * i + j) = l) := rfl
        first
          | exact ih i (j + 1) p J (by omega) (by omega) (by omega) hU hp0 hp1 hp hfr (fun q J' e => hq q J' (by rw [zl_in _ b2 _ b4 _ hi _ (by omega)]; simp only [zadd]; rw [if_neg (by rw [eP, decide_eq_true_eq]; exact hb41)]; exact e)) (fun e => hn (by rw [zl_in _ b2 _ b4 _ hi _ (by omega)]; simp only [zadd]; rw [if_neg (by rw [eP, decide_eq_true_eq]; exact hb41)]; exact e))
          | exact ih i (j + 1) (zred (p.1 * m1 (43 + (3 * i + j)) + m1 (34 + (3 * i + j)) * p.2) (p.2 * m1 (43 + (3 * i + j)))) _ (by omega) (by omega) (by omega) (vT_to hU rfl (by rw [zup_o (by omega), zup_o (by omega)]) (by rw [zup_o (by omega), zup_o (by omega)])) zf0 zf1 ⟨hF.1, zred_pos q4, hF.2⟩ (fun x hx => by rw [zup_o hx, zup_o hx]; exact hfr x hx) (fun q J' e => hq q J' (by rw [zl_in _ b2 _ b4 _ hi _ (by omega)]; simp only [zadd]; rw [if_pos (by rw [eP, decide_eq_true_eq]; exact hb41), hF2]; exact e)) (fun e => hn (by rw [zl_in _ b2 _ b4 _ hi _ (by omega)]; simp only [zadd]; rw [if_pos (by rw [eP, decide_eq_true_eq]; exact hb41), hF2]; exact e))
          | exact ih (i + 1) 0 p J (by omega) (by omega) (by omega) hU hp0 hp1 hp hfr (fun q J' e => hq q J' (by obtain rfl : j = n 1 := (by omega); rw [zl_row _ b2 _ b4 _ hi]; exact e)) (fun e => hn (by obtain rfl : j = n 1 := (by omega); rw [zl_row _ b2 _ b4 _ hi]; exact e))
          | fail
    · skip
      refine z_aload_n (pc := 31) dX7_isSummed_31 rfl rfl ?_
      refine z_iload_n (pc := 32) dX7_isSummed_32 rfl rfl ?_
      refine z_iload (pc := 33) dX7_isSummed_33 rfl ?_
      refine z_iload (pc := 35) dX7_isSummed_35 rfl ?_
      refine z_callV (pc := 37) (c_X6_lineOf (by assumption) (by assumption) (by assumption) (by omega) (by omega) (by omega)) dX7_isSummed_37 l_RX7_64 m_MX6_lineOf n_MX6_lineOf e_MX6_lineOf rfl (by omega) (by assumption) rfl rfl (Nat.le_of_ble_eq_true rfl) ?_
      rintro _ _ _ (⟨rfl, rfl, rfl⟩)
      try dsimp only [zov, Option.toList, List.cons_append, List.nil_append]
      have hzl : zline (fun k => n (16 + k)) w (3 * i + j) < 2147483648 := by
        have h7 : n (16 + (3 * i + j)) ≤ 2 := b7 (3 * i + j) (by omega)
        unfold zline
        split
        · omega
        · split
          · omega
          · exact Nat.lt_of_le_of_lt h7 (by decide)
      refine z_iload_n (pc := 40) dX7_isSummed_40 rfl rfl ?_
      first | refine z_icmp_eqN (pc := 41) (tgt := 47) (by with_reducible rfl) (by with_reducible rfl) dX7_isSummed_41 (by decide) (by omega) (by omega) (fun hb41 => ?_) (fun hb41 => ?_) | refine z_icmp_eq (pc := 41) (tgt := 47) dX7_isSummed_41 (by decide) (fun hb41 => ?_) (fun hb41 => ?_)
      · skip
        refine z_aload (pc := 47) dX7_isSummed_47 rfl ?_
        refine z_aload_n (pc := 49) dX7_isSummed_49 rfl rfl ?_
        refine z_getR (pc := 50) dX7_isSummed_50 f_RX7_9 (by assumption) rfl ?_
        refine z_iload (pc := 53) dX7_isSummed_53 rfl ?_
        refine z_iload (pc := 55) dX7_isSummed_55 rfl ?_
        refine z_callN (pc := 57) c_X9_place dX7_isSummed_57 zN_56 m_MX9_place s_MX9_place rfl (by omega) rfl (Nat.le_of_ble_eq_true rfl) ?_
        rintro _ _ _ (⟨rfl, rfl, rfl⟩)
        try dsimp only [zov, Option.toList, List.cons_append, List.nil_append]
        refine z_laloadv (pc := 60) dX7_isSummed_60 (by assumption) (by with_reducible rfl) (by omega) (by decide) (by first | assumption | exact v3 _ (by omega) | exact v4 _ (by omega) | exact v5 _ (by omega) | exact w0 _ (by omega) | exact w1 _ (by omega) | rfl) ?_
        refine z_aload_n (pc := 61) dX7_isSummed_61 rfl rfl ?_
        refine z_getR (pc := 62) dX7_isSummed_62 f_RX7_15 (by assumption) rfl ?_
        refine z_iload (pc := 65) dX7_isSummed_65 rfl ?_
        refine z_iload (pc := 67) dX7_isSummed_67 rfl ?_
        refine z_callN (pc := 69) c_X9_place dX7_isSummed_69 zN_56 m_MX9_place s_MX9_place rfl (by omega) rfl (Nat.le_of_ble_eq_true rfl) ?_
        rintro _ _ _ (⟨rfl, rfl, rfl⟩)
        try dsimp only [zov, Option.toList, List.cons_append, List.nil_append]
        refine z_laloadv (pc := 72) dX7_isSummed_72 (by assumption) (by with_reducible rfl) (by omega) (by decide) (by first | assumption | exact v3 _ (by omega) | exact v4 _ (by omega) | exact v5 _ (by omega) | exact w0 _ (by omega) | exact w1 _ (by omega) | rfl) ?_
        have hk9 : 3 * i + j < 9 := by omega
        have hbk := hb (3 * i + j) hk9
        have q1 := zmul2 hp.1 hbk.2.2
        have q2 := zmul2 hbk.1 hp.2.2
        have q3 := zmul2 hp.2.2 hbk.2.2
        have q4 : 0 < p.2 * m1 (43 + (3 * i + j)) := Nat.mul_pos hp.2.1 hbk.2.1
        refine z_callV (pc := 73) (c_X0_add (by assumption) (by assumption) (by assumption) (by omega) (by omega) (by omega)) dX7_isSummed_73 l_RX7_68 m_MX0_add n_MX0_add e_MX0_add rfl (by omega) (by assumption) rfl rfl (Nat.le_of_ble_eq_true rfl) ?_
        rintro _ _ _ (⟨rfl, rfl, rfl⟩)
        try dsimp only [zov, Option.toList, List.cons_append, List.nil_append]
        refine z_aload (pc := 76) dX7_isSummed_76 rfl ?_
        have hd1 : (p.1 * m1 (43 + (3 * i + j)) + m1 (34 + (3 * i + j)) * p.2) / Nat.gcd (p.2 * m1 (43 + (3 * i + j))) (p.1 * m1 (43 + (3 * i + j)) + m1 (34 + (3 * i + j)) * p.2) ≤ p.1 * m1 (43 + (3 * i + j)) + m1 (34 + (3 * i + j)) * p.2 := Nat.div_le_self _ _
        have hd2 : p.2 * m1 (43 + (3 * i + j)) / Nat.gcd (p.2 * m1 (43 + (3 * i + j))) (p.1 * m1 (43 + (3 * i + j)) + m1 (34 + (3 * i + j)) * p.2) ≤ p.2 * m1 (43 + (3 * i + j)) := Nat.div_le_self _ _
        refine z_callV (pc := 78) (c_X0_isFine (by assumption) zf0 zf1 (by omega) (by omega)) dX7_isSummed_78 l_RX7_71 m_MX0_isFine n_MX0_isFine e_MX0_isFine rfl (by omega) (by assumption) rfl rfl (Nat.le_of_ble_eq_true rfl) ?_
        rintro _ _ _ ⟨⟨rfl, hF⟩ | ⟨rfl, hF⟩, rfl, rfl⟩
        · have hF2 : zok (zred (p.1 * m1 (43 + (3 * i + j)) + m1 (34 + (3 * i + j)) * p.2) (p.2 * m1 (43 + (3 * i + j)))) = false := decide_eq_false hF
          try dsimp only [zov, Option.toList, List.cons_append, List.nil_append]
          first | refine z_if_eqN (pc := 81) (tgt := 86) (by with_reducible rfl) dX7_isSummed_81 (by decide) (by omega) (fun hb81 => absurd hb81 (by decide)) (fun hb81 => ?_) | refine z_if_eq (pc := 81) (tgt := 86) dX7_isSummed_81 (by decide) (fun hb81 => absurd hb81 (by decide)) (fun hb81 => ?_)
          · skip
            refine z_iconst (pc := 84) (v := nI 0) dX7_isSummed_84 (by decide) ?_
            refine z_zret (pc := 85) dX7_isSummed_85 rfl (by first | decide | assumption) ?_
            first
              | (obtain rfl : j = n 1 := (by omega); obtain h9 : i + 1 = n 0 := (by omega); exact hq p J (by rw [zl_row _ b2 _ b4 _ hi, h9, zl_end _ b2 _ b4]; rfl) hp0 hp1 hfr)
              | exact hn (by rw [zl_in _ b2 _ b4 _ hi _ (by omega)]; simp only [zadd]; rw [if_pos (by rw [decide_eq_true_eq]; exact hb41), hF2]; rfl) _ (fun x hx => by rw [zup_o hx, zup_o hx]; exact hfr x hx)
              | fail
        · have hF2 : zok (zred (p.1 * m1 (43 + (3 * i + j)) + m1 (34 + (3 * i + j)) * p.2) (p.2 * m1 (43 + (3 * i + j)))) = true := decide_eq_true hF
          try dsimp only [zov, Option.toList, List.cons_append, List.nil_append]
          first | refine z_if_eqN (pc := 81) (tgt := 86) (by with_reducible rfl) dX7_isSummed_81 (by decide) (by omega) (fun hb81 => ?_) (fun hb81 => absurd hb81 (by decide)) | refine z_if_eq (pc := 81) (tgt := 86) dX7_isSummed_81 (by decide) (fun hb81 => ?_) (fun hb81 => absurd hb81 (by decide))
          · skip
            first | refine z_iincN (pc := 86) (c := 1) dX7_isSummed_86 rfl (by with_reducible rfl) (by decide) (by decide) rfl ?_ | refine z_iinc (pc := 86) dX7_isSummed_86 rfl rfl (by decide) rfl ?_
            try dsimp only [zst1, zst2, zk]
            refine z_goto (pc := 89) (tgt := 22) dX7_isSummed_89 (by decide) ?_
            have eP : zP n w l (3 * i + j) = decide (zline (fun k => n (16 + k)) w (3 * i + j) = l) := rfl
            first
              | exact ih i (j + 1) p J (by omega) (by omega) (by omega) hU hp0 hp1 hp hfr (fun q J' e => hq q J' (by rw [zl_in _ b2 _ b4 _ hi _ (by omega)]; simp only [zadd]; rw [if_neg (by rw [eP, decide_eq_true_eq]; exact hb41)]; exact e)) (fun e => hn (by rw [zl_in _ b2 _ b4 _ hi _ (by omega)]; simp only [zadd]; rw [if_neg (by rw [eP, decide_eq_true_eq]; exact hb41)]; exact e))
              | exact ih i (j + 1) (zred (p.1 * m1 (43 + (3 * i + j)) + m1 (34 + (3 * i + j)) * p.2) (p.2 * m1 (43 + (3 * i + j)))) _ (by omega) (by omega) (by omega) (vT_to hU rfl (by rw [zup_o (by omega), zup_o (by omega)]) (by rw [zup_o (by omega), zup_o (by omega)])) zf0 zf1 ⟨hF.1, zred_pos q4, hF.2⟩ (fun x hx => by rw [zup_o hx, zup_o hx]; exact hfr x hx) (fun q J' e => hq q J' (by rw [zl_in _ b2 _ b4 _ hi _ (by omega)]; simp only [zadd]; rw [if_pos (by rw [eP, decide_eq_true_eq]; exact hb41), hF2]; exact e)) (fun e => hn (by rw [zl_in _ b2 _ b4 _ hi _ (by omega)]; simp only [zadd]; rw [if_pos (by rw [eP, decide_eq_true_eq]; exact hb41), hF2]; exact e))
              | exact ih (i + 1) 0 p J (by omega) (by omega) (by omega) hU hp0 hp1 hp hfr (fun q J' e => hq q J' (by obtain rfl : j = n 1 := (by omega); rw [zl_row _ b2 _ b4 _ hi]; exact e)) (fun e => hn (by obtain rfl : j = n 1 := (by omega); rw [zl_row _ b2 _ b4 _ hi]; exact e))
              | fail
      · skip
        refine z_goto (pc := 44) (tgt := 86) dX7_isSummed_44 (by decide) ?_
        first | refine z_iincN (pc := 86) (c := 1) dX7_isSummed_86 rfl (by with_reducible rfl) (by decide) (by decide) rfl ?_ | refine z_iinc (pc := 86) dX7_isSummed_86 rfl rfl (by decide) rfl ?_
        try dsimp only [zst1, zst2, zk]
        refine z_goto (pc := 89) (tgt := 22) dX7_isSummed_89 (by decide) ?_
        have eP : zP n w l (3 * i + j) = decide (zline (fun k => n (16 + k)) w (3 * i + j) = l) := rfl
        first
          | exact ih i (j + 1) p J (by omega) (by omega) (by omega) hU hp0 hp1 hp hfr (fun q J' e => hq q J' (by rw [zl_in _ b2 _ b4 _ hi _ (by omega)]; simp only [zadd]; rw [if_neg (by rw [eP, decide_eq_true_eq]; exact hb41)]; exact e)) (fun e => hn (by rw [zl_in _ b2 _ b4 _ hi _ (by omega)]; simp only [zadd]; rw [if_neg (by rw [eP, decide_eq_true_eq]; exact hb41)]; exact e))
          | exact ih i (j + 1) (zred (p.1 * m1 (43 + (3 * i + j)) + m1 (34 + (3 * i + j)) * p.2) (p.2 * m1 (43 + (3 * i + j)))) _ (by omega) (by omega) (by omega) (vT_to hU rfl (by rw [zup_o (by omega), zup_o (by omega)]) (by rw [zup_o (by omega), zup_o (by omega)])) zf0 zf1 ⟨hF.1, zred_pos q4, hF.2⟩ (fun x hx => by rw [zup_o hx, zup_o hx]; exact hfr x hx) (fun q J' e => hq q J' (by rw [zl_in _ b2 _ b4 _ hi _ (by omega)]; simp only [zadd]; rw [if_pos (by rw [eP, decide_eq_true_eq]; exact hb41), hF2]; exact e)) (fun e => hn (by rw [zl_in _ b2 _ b4 _ hi _ (by omega)]; simp only [zadd]; rw [if_pos (by rw [eP, decide_eq_true_eq]; exact hb41), hF2]; exact e))
          | exact ih (i + 1) 0 p J (by omega) (by omega) (by omega) hU hp0 hp1 hp hfr (fun q J' e => hq q J' (by obtain rfl : j = n 1 := (by omega); rw [zl_row _ b2 _ b4 _ hi]; exact e)) (fun e => hn (by obtain rfl : j = n 1 := (by omega); rw [zl_row _ b2 _ b4 _ hi]; exact e))
          | fail
set_option maxHeartbeats 2000000 in
set_option maxRecDepth 20000 in
theorem c_X7_isSummed {lay : List zL} {I : zI} {J : zJ} {s t f w l : Nat} {n m1 : Nat → Nat} (hS : kS lay s) (hV : vS I s n) (hB : bS n) (hT : kT lay t) (hU : vT I J t m1) (hb : bT m1) (hf : lay[f]? = some (.inl (0, [1, 1]))) (hf1 : f ≠ t + 1) (hf2 : f ≠ t + 2) (hw : w ≤ 2) (hl : l < 2147483648) : zMet lay MX7_isSummed 2 [.ref t, .ref s, .int (nI w), .int (nI l), .ref f] I J (fun r I' J' => ((r = .int (nI 1) ∧ ∃ q, zsm n m1 w l = some q ∧ J' f 0 = lN q.1 ∧ J' f 1 = lN q.2) ∨ (r = .int (nI 0) ∧ zsm n m1 w l = none)) ∧ I = I' ∧ ∀ x, x ≠ f → J' x = J x) := by
  refine zMet_of (t := MX7_isSummed) (ls := [.ref t, .ref s, .int (nI w), .int (nI l), .ref f, .null, .null]) (by decide +kernel) (Nat.le_of_ble_eq_true rfl) rfl ?_
  have hS' := hS
  have hV' := hV
  have hB' := hB
  obtain ⟨h1, h2, h3, h4⟩ := hS
  obtain ⟨v0, v1, v2, v3, v4, v5⟩ := hV
  obtain ⟨b1, b2, b3, b4, b5, b6, b7, b8⟩ := hB
  refine z_aload (pc := 0) dX7_isSummed_0 rfl ?_
  refine z_lconst (pc := 2) (v := lN 0) dX7_isSummed_2 rfl ?_
  refine z_lconst (pc := 3) (v := lN 1) dX7_isSummed_3 rfl ?_
  refine z_callV (pc := 4) (c_X0_become (x := 0) (y := 1) (by assumption) (by omega) (by omega) (by omega)) dX7_isSummed_4 l_RX7_60 m_MX0_become n_MX0_become e_MX0_become rfl (by omega) (by assumption) rfl rfl (Nat.le_of_ble_eq_true rfl) ?_
  rintro _ _ _ (⟨rfl, rfl, rfl⟩)
  try dsimp only [zov, Option.toList, List.cons_append, List.nil_append]
  refine z_iconst (pc := 7) (v := nI 0) dX7_isSummed_7 (by decide) ?_
  refine z_istore (pc := 8) dX7_isSummed_8 (by decide) rfl ?_
  try dsimp only [zst1, zst2, zk]
  refine z_iload (pc := 10) dX7_isSummed_10 rfl ?_
  refine z_aload_n (pc := 12) dX7_isSummed_12 rfl rfl ?_
  refine z_getIv (pc := 13) dX7_isSummed_13 f_RX7_50 (by assumption) rfl (by first | assumption | exact v3 _ (by omega) | exact v4 _ (by omega) | exact v5 _ (by omega) | rfl) ?_
  first | refine z_icmp_geN (pc := 16) (tgt := 98) (by with_reducible rfl) (by with_reducible rfl) dX7_isSummed_16 (by decide) (by omega) (by omega) (fun hb16 => absurd hb16 (by omega)) (fun hb16 => ?_) | refine z_icmp_ge (pc := 16) (tgt := 98) dX7_isSummed_16 (by decide) (fun hb16 => absurd hb16 (by omega)) (fun hb16 => ?_)
  · skip
    refine z_iconst (pc := 19) (v := nI 0) dX7_isSummed_19 (by decide) ?_
    refine z_istore (pc := 20) dX7_isSummed_20 (by decide) rfl ?_
    try dsimp only [zst1, zst2, zk]
    exact l_X7_isSummed (J0 := J) hS' hV' hB' hT hb hf hf1 hf2 hw hl 100 0 0 (0, 1) _ (by omega) (by omega) (by omega) (vT_to hU rfl (by rw [zup_o (by omega), zup_o (by omega)]) (by rw [zup_o (by omega), zup_o (by omega)])) zf0 zf1 ⟨by decide, by decide, by decide⟩ (fun x hx => by rw [zup_o hx, zup_o hx]) (fun q J' e e0 e1 hfr => ⟨Or.inl ⟨rfl, q, e, e0, e1⟩, rfl, hfr⟩) (fun e J' hfr => ⟨Or.inr ⟨rfl, e⟩, rfl, hfr⟩)
