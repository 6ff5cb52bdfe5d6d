set_option maxHeartbeats 2000000 in
set_option maxRecDepth 20000 in
theorem c_X5_clauseEnd {lay : List zL} {I : zI} {J : zJ} {a len : Nat} {tx : Nat → Nat} (hX : kX lay a) (hV : vX I a len tx) {p : Nat} (hp : p < 900) : zMet lay MX5_clauseEnd 3 [.ref a, .int (nI p)] I J (fun r I' J' => r = .int (zco (zce len tx p)) ∧ I = I' ∧ J = J') := by
  refine zMet_of (t := MX5_clauseEnd) (ls := [.ref a, .int (nI p)]) (by decide +kernel) (Nat.le_of_ble_eq_true rfl) rfl ?_
  obtain ⟨h1, h2⟩ := id hX
  obtain ⟨v0, v1, v2, v3⟩ := id hV
  refine z_aload_n (pc := 0) dX5_clauseEnd_0 rfl rfl ?_
  refine z_iload_n (pc := 1) dX5_clauseEnd_1 rfl rfl ?_
  refine z_callV (pc := 2) (c_X5_sign (by assumption) (by assumption) (by omega)) dX5_clauseEnd_2 l_RX5_19 m_MX5_sign n_MX5_sign e_MX5_sign rfl (by omega) (by assumption) rfl rfl (Nat.le_of_ble_eq_true rfl) ?_
  rintro _ _ _ ⟨⟨rfl, hs⟩ | ⟨rfl, hs⟩, rfl, rfl⟩
  · have h127 := v3 _ hs
    try dsimp only [zov, Option.toList, List.cons_append, List.nil_append]
    by_cases hk : tx p = 107
    · rw [hk]
      refine z_tableIn (pc := 5) (off := 91) (tgt := 96) dX5_clauseEnd_5 (by decide) (by decide) (by decide) (by decide) ?_
      refine z_aload_n (pc := 96) dX5_clauseEnd_96 rfl rfl ?_
      refine z_iload_n (pc := 97) dX5_clauseEnd_97 rfl rfl ?_
      refine z_iconst (pc := 98) (v := nI 1) dX5_clauseEnd_98 (by decide) ?_
      first | refine z_iaddN (pc := 99) (by with_reducible rfl) (by with_reducible rfl) dX5_clauseEnd_99 ?_ | refine z_iadd (pc := 99) dX5_clauseEnd_99 ?_
      refine z_iconst (pc := 100) (v := nI 3) dX5_clauseEnd_100 (by decide) ?_
      refine z_iconst (pc := 101) (v := nI 3) dX5_clauseEnd_101 (by decide) ?_
      refine z_callV (pc := 102) (c_X5_digitsEnd (by assumption) (by assumption) (by omega) (by omega) (by omega)) dX5_clauseEnd_102 l_RX5_29 m_MX5_digitsEnd n_MX5_digitsEnd e_MX5_digitsEnd rfl (by omega) (by assumption) rfl rfl (Nat.le_of_ble_eq_true rfl) ?_
      rintro _ _ _ (⟨rfl, rfl, rfl⟩)
      try dsimp only [zov, Option.toList, List.cons_append, List.nil_append]
      refine z_iret (pc := 105) dX5_clauseEnd_105 rfl ?_
      exact ⟨by unfold zce; rw [if_neg (by omega), if_neg (by omega), if_neg (by omega), if_pos hk], rfl, rfl⟩
    have hk107 := hk
    clear hk
    by_cases hk : tx p = 109
    · rw [hk]
      refine z_tableIn (pc := 5) (off := 81) (tgt := 86) dX5_clauseEnd_5 (by decide) (by decide) (by decide) (by decide) ?_
      refine z_aload_n (pc := 86) dX5_clauseEnd_86 rfl rfl ?_
      refine z_iload_n (pc := 87) dX5_clauseEnd_87 rfl rfl ?_
      refine z_iconst (pc := 88) (v := nI 1) dX5_clauseEnd_88 (by decide) ?_
      first | refine z_iaddN (pc := 89) (by with_reducible rfl) (by with_reducible rfl) dX5_clauseEnd_89 ?_ | refine z_iadd (pc := 89) dX5_clauseEnd_89 ?_
      refine z_iconst (pc := 90) (v := nI 3) dX5_clauseEnd_90 (by decide) ?_
      refine z_iconst (pc := 91) (v := nI 4) dX5_clauseEnd_91 (by decide) ?_
      refine z_callV (pc := 92) (c_X5_digitsEnd (by assumption) (by assumption) (by omega) (by omega) (by omega)) dX5_clauseEnd_92 l_RX5_29 m_MX5_digitsEnd n_MX5_digitsEnd e_MX5_digitsEnd rfl (by omega) (by assumption) rfl rfl (Nat.le_of_ble_eq_true rfl) ?_
      rintro _ _ _ (⟨rfl, rfl, rfl⟩)
      try dsimp only [zov, Option.toList, List.cons_append, List.nil_append]
      refine z_iret (pc := 95) dX5_clauseEnd_95 rfl ?_
      exact ⟨by unfold zce; rw [if_neg (by omega), if_neg (by omega), if_pos (Or.inr hk)], rfl, rfl⟩
    have hk109 := hk
    clear hk
    by_cases hk : tx p = 110
    · rw [hk]
      refine z_tableIn (pc := 5) (off := 81) (tgt := 86) dX5_clauseEnd_5 (by decide) (by decide) (by decide) (by decide) ?_
      refine z_aload_n (pc := 86) dX5_clauseEnd_86 rfl rfl ?_
      refine z_iload_n (pc := 87) dX5_clauseEnd_87 rfl rfl ?_
      refine z_iconst (pc := 88) (v := nI 1) dX5_clauseEnd_88 (by decide) ?_
      first | refine z_iaddN (pc := 89) (by with_reducible rfl) (by with_reducible rfl) dX5_clauseEnd_89 ?_ | refine z_iadd (pc := 89) dX5_clauseEnd_89 ?_
      refine z_iconst (pc := 90) (v := nI 3) dX5_clauseEnd_90 (by decide) ?_
      refine z_iconst (pc := 91) (v := nI 4) dX5_clauseEnd_91 (by decide) ?_
      refine z_callV (pc := 92) (c_X5_digitsEnd (by assumption) (by assumption) (by omega) (by omega) (by omega)) dX5_clauseEnd_92 l_RX5_29 m_MX5_digitsEnd n_MX5_digitsEnd e_MX5_digitsEnd rfl (by omega) (by assumption) rfl rfl (Nat.le_of_ble_eq_true rfl) ?_
      rintro _ _ _ (⟨rfl, rfl, rfl⟩)
      try dsimp only [zov, Option.toList, List.cons_append, List.nil_append]
      refine z_iret (pc := 95) dX5_clauseEnd_95 rfl ?_
      exact ⟨by unfold zce; rw [if_neg (by omega), if_neg (by omega), if_pos (Or.inl hk)], rfl, rfl⟩
    have hk110 := hk
    clear hk
    by_cases hk : tx p = 115
    · rw [hk]
      refine z_tableIn (pc := 5) (off := 71) (tgt := 76) dX5_clauseEnd_5 (by decide) (by decide) (by decide) (by decide) ?_
      refine z_aload_n (pc := 76) dX5_clauseEnd_76 rfl rfl ?_
      refine z_iload_n (pc := 77) dX5_clauseEnd_77 rfl rfl ?_
      refine z_iconst (pc := 78) (v := nI 1) dX5_clauseEnd_78 (by decide) ?_
      first | refine z_iaddN (pc := 79) (by with_reducible rfl) (by with_reducible rfl) dX5_clauseEnd_79 ?_ | refine z_iadd (pc := 79) dX5_clauseEnd_79 ?_
      refine z_iconst (pc := 80) (v := nI 2) dX5_clauseEnd_80 (by decide) ?_
      refine z_iconst (pc := 81) (v := nI 2) dX5_clauseEnd_81 (by decide) ?_
      refine z_callV (pc := 82) (c_X5_digitsEnd (by assumption) (by assumption) (by omega) (by omega) (by omega)) dX5_clauseEnd_82 l_RX5_29 m_MX5_digitsEnd n_MX5_digitsEnd e_MX5_digitsEnd rfl (by omega) (by assumption) rfl rfl (Nat.le_of_ble_eq_true rfl) ?_
      rintro _ _ _ (⟨rfl, rfl, rfl⟩)
      try dsimp only [zov, Option.toList, List.cons_append, List.nil_append]
      refine z_iret (pc := 85) dX5_clauseEnd_85 rfl ?_
      exact ⟨by unfold zce; rw [if_neg (by omega), if_pos hk], rfl, rfl⟩
    have hk115 := hk
    clear hk
    by_cases hk : tx p = 120
    · rw [hk]
      refine z_tableIn (pc := 5) (off := 101) (tgt := 106) dX5_clauseEnd_5 (by decide) (by decide) (by decide) (by decide) ?_
      refine z_iload_n (pc := 106) dX5_clauseEnd_106 rfl rfl ?_
      refine z_iconst (pc := 107) (v := nI 1) dX5_clauseEnd_107 (by decide) ?_
      first | refine z_iaddN (pc := 108) (by with_reducible rfl) (by with_reducible rfl) dX5_clauseEnd_108 ?_ | refine z_iadd (pc := 108) dX5_clauseEnd_108 ?_
      refine z_iret (pc := 109) dX5_clauseEnd_109 rfl ?_
      exact ⟨by unfold zce; rw [if_neg (by omega), if_neg (by omega), if_neg (by omega), if_neg (by omega), if_pos hk]; rfl, rfl, rfl⟩
    have hk120 := hk
    clear hk
    have e9 := nI_toInt (n := tx p) (by omega)
    by_cases hk : tx p = 108
    · rw [hk]
      refine z_tableIn (pc := 5) (off := 105) (tgt := 110) dX5_clauseEnd_5 (by decide) (by decide) (by decide) (by decide) ?_
      refine z_iconst (pc := 110) (v := -1) dX5_clauseEnd_110 (by decide) ?_
      refine z_iload_n (pc := 111) dX5_clauseEnd_111 rfl rfl ?_
      first | refine z_isubN (pc := 112) (by with_reducible rfl) (by with_reducible rfl) dX5_clauseEnd_112 (by omega) ?_ | refine z_isub (pc := 112) dX5_clauseEnd_112 ?_
      refine z_iret (pc := 113) dX5_clauseEnd_113 rfl ?_
      exact ⟨by unfold zce; rw [if_neg (by omega), if_neg (by omega), if_neg (by omega), if_neg (by omega), if_neg (by omega)]; rfl, rfl, rfl⟩
    have hk108 := hk
    clear hk
    by_cases hk : tx p = 111
    · rw [hk]
      refine z_tableIn (pc := 5) (off := 105) (tgt := 110) dX5_clauseEnd_5 (by decide) (by decide) (by decide) (by decide) ?_
      refine z_iconst (pc := 110) (v := -1) dX5_clauseEnd_110 (by decide) ?_
      refine z_iload_n (pc := 111) dX5_clauseEnd_111 rfl rfl ?_
      first | refine z_isubN (pc := 112) (by with_reducible rfl) (by with_reducible rfl) dX5_clauseEnd_112 (by omega) ?_ | refine z_isub (pc := 112) dX5_clauseEnd_112 ?_
      refine z_iret (pc := 113) dX5_clauseEnd_113 rfl ?_
      exact ⟨by unfold zce; rw [if_neg (by omega), if_neg (by omega), if_neg (by omega), if_neg (by omega), if_neg (by omega)]; rfl, rfl, rfl⟩
    have hk111 := hk
    clear hk
    by_cases hk : tx p = 112
    · rw [hk]
      refine z_tableIn (pc := 5) (off := 105) (tgt := 110) dX5_clauseEnd_5 (by decide) (by decide) (by decide) (by decide) ?_
      refine z_iconst (pc := 110) (v := -1) dX5_clauseEnd_110 (by decide) ?_
      refine z_iload_n (pc := 111) dX5_clauseEnd_111 rfl rfl ?_
      first | refine z_isubN (pc := 112) (by with_reducible rfl) (by with_reducible rfl) dX5_clauseEnd_112 (by omega) ?_ | refine z_isub (pc := 112) dX5_clauseEnd_112 ?_
      refine z_iret (pc := 113) dX5_clauseEnd_113 rfl ?_
      exact ⟨by unfold zce; rw [if_neg (by omega), if_neg (by omega), if_neg (by omega), if_neg (by omega), if_neg (by omega)]; rfl, rfl, rfl⟩
    have hk112 := hk
    clear hk
    by_cases hk : tx p = 113
    · rw [hk]
      refine z_tableIn (pc := 5) (off := 105) (tgt := 110) dX5_clauseEnd_5 (by decide) (by decide) (by decide) (by decide) ?_
      refine z_iconst (pc := 110) (v := -1) dX5_clauseEnd_110 (by decide) ?_
      refine z_iload_n (pc := 111) dX5_clauseEnd_111 rfl rfl ?_
      first | refine z_isubN (pc := 112) (by with_reducible rfl) (by with_reducible rfl) dX5_clauseEnd_112 (by omega) ?_ | refine z_isub (pc := 112) dX5_clauseEnd_112 ?_
      refine z_iret (pc := 113) dX5_clauseEnd_113 rfl ?_
      exact ⟨by unfold zce; rw [if_neg (by omega), if_neg (by omega), if_neg (by omega), if_neg (by omega), if_neg (by omega)]; rfl, rfl, rfl⟩
    have hk113 := hk
    clear hk
    by_cases hk : tx p = 114
    · rw [hk]
      refine z_tableIn (pc := 5) (off := 105) (tgt := 110) dX5_clauseEnd_5 (by decide) (by decide) (by decide) (by decide) ?_
      refine z_iconst (pc := 110) (v := -1) dX5_clauseEnd_110 (by decide) ?_
      refine z_iload_n (pc := 111) dX5_clauseEnd_111 rfl rfl ?_
      first | refine z_isubN (pc := 112) (by with_reducible rfl) (by with_reducible rfl) dX5_clauseEnd_112 (by omega) ?_ | refine z_isub (pc := 112) dX5_clauseEnd_112 ?_
      refine z_iret (pc := 113) dX5_clauseEnd_113 rfl ?_
      exact ⟨by unfold zce; rw [if_neg (by omega), if_neg (by omega), if_neg (by omega), if_neg (by omega), if_neg (by omega)]; rfl, rfl, rfl⟩
    have hk114 := hk
    clear hk
    by_cases hk : tx p = 116
    · rw [hk]
      refine z_tableIn (pc := 5) (off := 105) (tgt := 110) dX5_clauseEnd_5 (by decide) (by decide) (by decide) (by decide) ?_
      refine z_iconst (pc := 110) (v := -1) dX5_clauseEnd_110 (by decide) ?_
      refine z_iload_n (pc := 111) dX5_clauseEnd_111 rfl rfl ?_
      first | refine z_isubN (pc := 112) (by with_reducible rfl) (by with_reducible rfl) dX5_clauseEnd_112 (by omega) ?_ | refine z_isub (pc := 112) dX5_clauseEnd_112 ?_
      refine z_iret (pc := 113) dX5_clauseEnd_113 rfl ?_
      exact ⟨by unfold zce; rw [if_neg (by omega), if_neg (by omega), if_neg (by omega), if_neg (by omega), if_neg (by omega)]; rfl, rfl, rfl⟩
    have hk116 := hk
    clear hk
    by_cases hk : tx p = 117
    · rw [hk]
      refine z_tableIn (pc := 5) (off := 105) (tgt := 110) dX5_clauseEnd_5 (by decide) (by decide) (by decide) (by decide) ?_
      refine z_iconst (pc := 110) (v := -1) dX5_clauseEnd_110 (by decide) ?_
      refine z_iload_n (pc := 111) dX5_clauseEnd_111 rfl rfl ?_
      first | refine z_isubN (pc := 112) (by with_reducible rfl) (by with_reducible rfl) dX5_clauseEnd_112 (by omega) ?_ | refine z_isub (pc := 112) dX5_clauseEnd_112 ?_
      refine z_iret (pc := 113) dX5_clauseEnd_113 rfl ?_
      exact ⟨by unfold zce; rw [if_neg (by omega), if_neg (by omega), if_neg (by omega), if_neg (by omega), if_neg (by omega)]; rfl, rfl, rfl⟩
    have hk117 := hk
    clear hk
    by_cases hk : tx p = 118
    · rw [hk]
      refine z_tableIn (pc := 5) (off := 105) (tgt := 110) dX5_clauseEnd_5 (by decide) (by decide) (by decide) (by decide) ?_
      refine z_iconst (pc := 110) (v := -1) dX5_clauseEnd_110 (by decide) ?_
      refine z_iload_n (pc := 111) dX5_clauseEnd_111 rfl rfl ?_
      first | refine z_isubN (pc := 112) (by with_reducible rfl) (by with_reducible rfl) dX5_clauseEnd_112 (by omega) ?_ | refine z_isub (pc := 112) dX5_clauseEnd_112 ?_
      refine z_iret (pc := 113) dX5_clauseEnd_113 rfl ?_
      exact ⟨by unfold zce; rw [if_neg (by omega), if_neg (by omega), if_neg (by omega), if_neg (by omega), if_neg (by omega)]; rfl, rfl, rfl⟩
    have hk118 := hk
    clear hk
    by_cases hk : tx p = 119
    · rw [hk]
      refine z_tableIn (pc := 5) (off := 105) (tgt := 110) dX5_clauseEnd_5 (by decide) (by decide) (by decide) (by decide) ?_
      refine z_iconst (pc := 110) (v := -1) dX5_clauseEnd_110 (by decide) ?_
      refine z_iload_n (pc := 111) dX5_clauseEnd_111 rfl rfl ?_
      first | refine z_isubN (pc := 112) (by with_reducible rfl) (by with_reducible rfl) dX5_clauseEnd_112 (by omega) ?_ | refine z_isub (pc := 112) dX5_clauseEnd_112 ?_
      refine z_iret (pc := 113) dX5_clauseEnd_113 rfl ?_
      exact ⟨by unfold zce; rw [if_neg (by omega), if_neg (by omega), if_neg (by omega), if_neg (by omega), if_neg (by omega)]; rfl, rfl, rfl⟩
    have hk119 := hk
    clear hk
    refine z_tableOut (pc := 5) (tgt := 110) dX5_clauseEnd_5 (by omega) (by decide) ?_
    refine z_iconst (pc := 110) (v := -1) dX5_clauseEnd_110 (by decide) ?_
    refine z_iload_n (pc := 111) dX5_clauseEnd_111 rfl rfl ?_
    first | refine z_isubN (pc := 112) (by with_reducible rfl) (by with_reducible rfl) dX5_clauseEnd_112 (by omega) ?_ | refine z_isub (pc := 112) dX5_clauseEnd_112 ?_
    refine z_iret (pc := 113) dX5_clauseEnd_113 rfl ?_
    exact ⟨by unfold zce; rw [if_neg (by omega), if_neg (by omega), if_neg (by omega), if_neg (by omega), if_neg (by omega)]; rfl, rfl, rfl⟩
  · try dsimp only [zov, Option.toList, List.cons_append, List.nil_append]
    refine z_tableOut (pc := 5) (tgt := 110) dX5_clauseEnd_5 (by left; decide) (by decide) ?_
    refine z_iconst (pc := 110) (v := -1) dX5_clauseEnd_110 (by decide) ?_
    refine z_iload_n (pc := 111) dX5_clauseEnd_111 rfl rfl ?_
    first | refine z_isubN (pc := 112) (by with_reducible rfl) (by with_reducible rfl) dX5_clauseEnd_112 (by omega) ?_ | refine z_isub (pc := 112) dX5_clauseEnd_112 ?_
    refine z_iret (pc := 113) dX5_clauseEnd_113 rfl ?_
    exact ⟨by unfold zce; rw [if_pos hs]; rfl, rfl, rfl⟩
