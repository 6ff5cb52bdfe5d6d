set_option maxHeartbeats 2000000 in
set_option maxRecDepth 20000 in
theorem l_X5_fault {lay : List zL} {Q : Value → zI → zJ → Prop} {I : zI} {J : zJ} {d : Nat} {a len : Nat} {tx : Nat → Nat} (hX : kX lay a) (hV : vX I a len tx) : ∀ (m k p : Nat) (w : Value), k + m = 13 → 1 ≤ m → p < 900 - 6 * m → Q (.int (zfc (zfa len tx m p))) I J → Z lay MX5_fault (d + 4) 4 [.ref a, .int (nI p), .int (nI k), w] [] I J Q := by
  obtain ⟨h1, h2⟩ := id hX
  obtain ⟨v0, v1, v2, v3⟩ := id hV
  intro m
  induction m with
  | zero =>
    intro k p w hk h1m
    exact absurd h1m (by omega)
  | succ m ih =>
    intro k p w hk h1m hp hq
    have hce := zce_le (len := len) (tx := tx) (a := p)
    by_cases hc : (zce len tx p).1 = true
    · have hc2 := zco_t hc
      have hge := zce_ge hc
      refine z_iload_n (pc := 4) dX5_fault_4 rfl rfl ?_
      refine z_bipush (pc := 5) (v := nI 12) dX5_fault_5 (by decide) ?_
      first | refine z_icmp_gtN (pc := 7) (tgt := 62) (by with_reducible rfl) (by with_reducible rfl) dX5_fault_7 (by decide) (by omega) (by omega) (fun hb7 => absurd hb7 (by omega)) (fun hb7 => ?_) | refine z_icmp_gt (pc := 7) (tgt := 62) dX5_fault_7 (by decide) (fun hb7 => absurd hb7 (by omega)) (fun hb7 => ?_)
      · skip
        refine z_aload_n (pc := 10) dX5_fault_10 rfl rfl ?_
        refine z_iload_n (pc := 11) dX5_fault_11 rfl rfl ?_
        refine z_callV (pc := 12) (c_X5_clauseEnd (by assumption) (by assumption) (by omega)) dX5_fault_12 l_RX5_26 m_MX5_clauseEnd n_MX5_clauseEnd e_MX5_clauseEnd rfl (by omega) (by assumption) rfl rfl (Nat.le_of_ble_eq_true rfl) ?_
        rintro _ _ _ (⟨rfl, rfl, rfl⟩)
        try dsimp only [zov, Option.toList, List.cons_append, List.nil_append]
        rw [hc2]
        refine z_istore_n (pc := 15) dX5_fault_15 rfl (by decide) rfl ?_
        try dsimp only [zst1, zst2, zk]
        refine z_iload_n (pc := 16) dX5_fault_16 rfl rfl ?_
        first | refine z_if_geN (pc := 17) (tgt := 24) (by with_reducible rfl) dX5_fault_17 (by decide) (by omega) (fun hb17 => ?_) (fun hb17 => absurd hb17 (fun h => h)) | refine z_if_ge (pc := 17) (tgt := 24) dX5_fault_17 (by decide) (fun hb17 => ?_) (fun hb17 => absurd hb17 (fun h => h))
        · skip
          refine z_iload_n (pc := 24) dX5_fault_24 rfl rfl ?_
          refine z_aload_n (pc := 25) dX5_fault_25 rfl rfl ?_
          refine z_getIv (pc := 26) dX5_fault_26 f_RX5_15 (by assumption) rfl (by first | assumption | rfl) ?_
          first | refine z_icmp_ltN (pc := 29) (tgt := 34) (by with_reducible rfl) (by with_reducible rfl) dX5_fault_29 (by decide) (by omega) (by omega) (fun hb29 => ?_) (fun hb29 => ?_) | refine z_icmp_lt (pc := 29) (tgt := 34) dX5_fault_29 (by decide) (fun hb29 => ?_) (fun hb29 => ?_)
          · skip
            refine z_aload_n (pc := 34) dX5_fault_34 rfl rfl ?_
            refine z_iload_n (pc := 35) dX5_fault_35 rfl rfl ?_
            refine z_callV (pc := 36) (c_X5_sign (by assumption) (by assumption) (by omega)) dX5_fault_36 l_RX5_19 m_MX5_sign n_MX5_sign e_MX5_sign rfl (by omega) (by assumption) rfl rfl (Nat.le_of_ble_eq_true rfl) ?_
            rintro _ _ _ ⟨⟨rfl, hs⟩ | ⟨rfl, hs⟩, rfl, rfl⟩
            · have h127 := v3 _ hs
              try dsimp only [zov, Option.toList, List.cons_append, List.nil_append]
              refine z_bipush (pc := 39) (v := nI 59) dX5_fault_39 (by decide) ?_
              first | refine z_icmp_neN (pc := 41) (tgt := 50) (by with_reducible rfl) (by with_reducible rfl) dX5_fault_41 (by decide) (by omega) (by omega) (fun hb41 => ?_) (fun hb41 => ?_) | refine z_icmp_ne (pc := 41) (tgt := 50) dX5_fault_41 (by decide) (fun hb41 => ?_) (fun hb41 => ?_)
              · skip
                refine z_iload_n (pc := 50) dX5_fault_50 rfl rfl ?_
                refine z_iret (pc := 51) dX5_fault_51 rfl ?_
                first
                  | (simp only [zfa] at hq; rw [if_pos hc, if_pos (by omega)] at hq; exact hq)
                  | (simp only [zfa] at hq; rw [if_pos hc, if_neg (by omega), if_pos (by omega)] at hq; exact hq)
                  | fail
              · skip
                refine z_iload_n (pc := 44) dX5_fault_44 rfl rfl ?_
                refine z_bipush (pc := 45) (v := nI 12) dX5_fault_45 (by decide) ?_
                first | refine z_icmp_neN (pc := 47) (tgt := 52) (by with_reducible rfl) (by with_reducible rfl) dX5_fault_47 (by decide) (by omega) (by omega) (fun hb47 => ?_) (fun hb47 => ?_) | refine z_icmp_ne (pc := 47) (tgt := 52) dX5_fault_47 (by decide) (fun hb47 => ?_) (fun hb47 => ?_)
                · skip
                  refine z_iload_n (pc := 52) dX5_fault_52 rfl rfl ?_
                  refine z_iconst (pc := 53) (v := nI 1) dX5_fault_53 (by decide) ?_
                  first | refine z_iaddN (pc := 54) (by with_reducible rfl) (by with_reducible rfl) dX5_fault_54 ?_ | refine z_iadd (pc := 54) dX5_fault_54 ?_
                  refine z_istore_n (pc := 55) dX5_fault_55 rfl (by decide) rfl ?_
                  try dsimp only [zst1, zst2, zk]
                  first | refine z_iincN (pc := 56) (c := 1) dX5_fault_56 rfl (by with_reducible rfl) (by decide) (by decide) rfl ?_ | refine z_iinc (pc := 56) dX5_fault_56 rfl rfl (by decide) rfl ?_
                  try dsimp only [zst1, zst2, zk]
                  refine z_goto (pc := 59) (tgt := 4) dX5_fault_59 (by decide) ?_
                  exact ih (k + 1) _ _ (by omega) (by omega) (by omega) (by simp only [zfa] at hq; rw [if_pos hc, if_neg (by omega), if_neg (by omega)] at hq; exact hq)
                · skip
                  refine z_iload_n (pc := 50) dX5_fault_50 rfl rfl ?_
                  refine z_iret (pc := 51) dX5_fault_51 rfl ?_
                  first
                    | (simp only [zfa] at hq; rw [if_pos hc, if_pos (by omega)] at hq; exact hq)
                    | (simp only [zfa] at hq; rw [if_pos hc, if_neg (by omega), if_pos (by omega)] at hq; exact hq)
                    | fail
            · exact absurd hs (by omega)
          · skip
            refine z_iconst (pc := 32) (v := -1) dX5_fault_32 (by decide) ?_
            refine z_iret (pc := 33) dX5_fault_33 rfl ?_
            first
              | (simp only [zfa] at hq; rw [if_pos hc, if_pos (by omega)] at hq; exact hq)
              | (simp only [zfa] at hq; rw [if_pos hc, if_neg (by omega), if_pos (by omega)] at hq; exact hq)
              | fail
    · have hc2 := zco_f hc
      refine z_iload_n (pc := 4) dX5_fault_4 rfl rfl ?_
      refine z_bipush (pc := 5) (v := nI 12) dX5_fault_5 (by decide) ?_
      first | refine z_icmp_gtN (pc := 7) (tgt := 62) (by with_reducible rfl) (by with_reducible rfl) dX5_fault_7 (by decide) (by omega) (by omega) (fun hb7 => absurd hb7 (by omega)) (fun hb7 => ?_) | refine z_icmp_gt (pc := 7) (tgt := 62) dX5_fault_7 (by decide) (fun hb7 => absurd hb7 (by omega)) (fun hb7 => ?_)
      · skip
        refine z_aload_n (pc := 10) dX5_fault_10 rfl rfl ?_
        refine z_iload_n (pc := 11) dX5_fault_11 rfl rfl ?_
        refine z_callV (pc := 12) (c_X5_clauseEnd (by assumption) (by assumption) (by omega)) dX5_fault_12 l_RX5_26 m_MX5_clauseEnd n_MX5_clauseEnd e_MX5_clauseEnd rfl (by omega) (by assumption) rfl rfl (Nat.le_of_ble_eq_true rfl) ?_
        rintro _ _ _ (⟨rfl, rfl, rfl⟩)
        try dsimp only [zov, Option.toList, List.cons_append, List.nil_append]
        rw [hc2]
        refine z_istore_n (pc := 15) dX5_fault_15 rfl (by decide) rfl ?_
        try dsimp only [zst1, zst2, zk]
        refine z_iload_n (pc := 16) dX5_fault_16 rfl rfl ?_
        first | refine z_if_geN (pc := 17) (tgt := 24) (by with_reducible rfl) dX5_fault_17 (by decide) (by omega) (fun hb17 => absurd hb17 (fun h => absurd (zneg (zce len tx p).2 (by omega)) (Int32.not_lt.mpr h))) (fun hb17 => ?_) | refine z_if_ge (pc := 17) (tgt := 24) dX5_fault_17 (by decide) (fun hb17 => absurd hb17 (fun h => absurd (zneg (zce len tx p).2 (by omega)) (Int32.not_lt.mpr h))) (fun hb17 => ?_)
        · skip
          refine z_iconst (pc := 20) (v := -1) dX5_fault_20 (by decide) ?_
          refine z_iload_n (pc := 21) dX5_fault_21 rfl rfl ?_
          first | refine z_isubN (pc := 22) (by with_reducible rfl) (by with_reducible rfl) dX5_fault_22 (by omega) ?_ | refine z_isub (pc := 22) dX5_fault_22 ?_
          rw [zneg2]
          refine z_iret (pc := 23) dX5_fault_23 rfl ?_
          simp only [zfa] at hq; rw [if_neg hc] at hq; exact hq
set_option maxHeartbeats 2000000 in
set_option maxRecDepth 20000 in
theorem c_X5_fault {lay : List zL} {I : zI} {J : zJ} {a len : Nat} {tx : Nat → Nat} (hX : kX lay a) (hV : vX I a len tx) : zMet lay MX5_fault 4 [.ref a] I J (fun r I' J' => r = .int (zfc (zfa len tx 12 0)) ∧ I = I' ∧ J = J') := by
  refine zMet_of (t := MX5_fault) (ls := [.ref a, .null, .null, .null]) (by decide +kernel) (Nat.le_of_ble_eq_true rfl) rfl ?_
  obtain ⟨h1, h2⟩ := id hX
  obtain ⟨v0, v1, v2, v3⟩ := id hV
  refine z_iconst (pc := 0) (v := nI 0) dX5_fault_0 (by decide) ?_
  refine z_istore_n (pc := 1) dX5_fault_1 rfl (by decide) rfl ?_
  try dsimp only [zst1, zst2, zk]
  refine z_iconst (pc := 2) (v := nI 1) dX5_fault_2 (by decide) ?_
  refine z_istore_n (pc := 3) dX5_fault_3 rfl (by decide) rfl ?_
  try dsimp only [zst1, zst2, zk]
  exact l_X5_fault (d := 0) hX hV 12 1 0 _ rfl (by omega) (by omega) ⟨rfl, rfl, rfl⟩
