set_option maxHeartbeats 2000000 in
set_option maxRecDepth 20000 in
theorem l_X4_cols {lay : List zL} {Q : Value → zI → zJ → Prop} {d s t r : Nat} {n m1 : Nat → Nat} {I0 : zI} {J0 : zJ} (hS : kS lay s) (hB : bS n) (hT : kT lay t) (hb : bT m1) (hR : kR lay r) (hrs : r + 7 < s ∨ s + 3 < r) (hrt : r + 7 < t ∨ t + 4 < r) : ∀ (f j : Nat) (q9 : Nat × Nat) (I : zI) (J : zJ), j + f = n 1 → zttl n m1 (n 0) 0 (0, 1) = some q9 → vS I s n → vT I J t m1 → I r 8 = nI (n 1) → J (r + 7) 0 = lN q9.1 → J (r + 7) 1 = lN q9.2 → zbd q9 → zbds I r n m1 0 (n 0) → zbds I r n m1 3 (3 + j) → (∀ x, x ≠ r + 4 → x ≠ r + 5 → I x = I0 x) → (∀ x, x ≠ r + 6 → x ≠ r + 7 → J x = J0 x) → (zcok n m1 f j = true → ∀ I' J', zbds I' r n m1 0 (n 0) → zbds I' r n m1 3 (3 + n 1) → zbds I' r n m1 6 7 → (∀ x, x ≠ r + 4 → x ≠ r + 5 → I' x = I0 x) → (∀ x, x ≠ r + 6 → x ≠ r + 7 → J' x = J0 x) → Q (.int (nI 1)) I' J') → (zcok n m1 f j = false → ∀ I' J', (∀ x, x ≠ r + 4 → x ≠ r + 5 → I' x = I0 x) → (∀ x, x ≠ r + 6 → x ≠ r + 7 → J' x = J0 x) → Q (.int (nI 0)) I' J') → Z lay MX4_areSumsBounded (d + 3) 89 [.ref r, .ref s, .ref t, .int (nI j)] [] I J Q := by
  have hR' := hR
  obtain ⟨r0, ⟨r1, r2, r3⟩, ⟨r4, r5⟩, r6, r7⟩ := hR
  have hT' := hT
  obtain ⟨t1, t2, t3, t4, t5⟩ := hT
  obtain ⟨b1, b2, b3, b4, b5, b6, b7, b8⟩ := id hB
  intro f
  induction f with
  | zero =>
    intro j q9 I J hj eq9 hV hU h8 hj0 hj1 hp9 hbd hbc hfi hfj hk hn
    obtain rfl : j = n 1 := (by omega)
    refine z_iload_n (pc := 89) dX4_areSumsBounded_89 rfl rfl ?_
    refine z_aload_n (pc := 90) dX4_areSumsBounded_90 rfl rfl ?_
    refine z_getIv (pc := 91) dX4_areSumsBounded_91 f_RX4_47 (by assumption) rfl (by first | assumption | rfl) ?_
    first | refine z_icmp_geN (pc := 94) (tgt := 132) (by with_reducible rfl) (by with_reducible rfl) dX4_areSumsBounded_94 (by decide) (by omega) (by omega) (fun hb94 => ?_) (fun hb94 => absurd hb94 (by omega)) | refine z_icmp_ge (pc := 94) (tgt := 132) dX4_areSumsBounded_94 (by decide) (fun hb94 => ?_) (fun hb94 => absurd hb94 (by omega))
    · skip
      refine z_aload_n (pc := 132) dX4_areSumsBounded_132 rfl rfl ?_
      refine z_bipush (pc := 133) (v := nI 6) dX4_areSumsBounded_133 (by decide) ?_
      refine z_aload_n (pc := 135) dX4_areSumsBounded_135 rfl rfl ?_
      refine z_getR (pc := 136) dX4_areSumsBounded_136 f_RX4_34 (by assumption) rfl ?_
      refine z_callV (pc := 139) (c_X4_boundLine (p := q9) (l := 6) (by assumption) (by assumption) hj0 hj1 hp9 (by omega)) dX4_areSumsBounded_139 l_RX4_74 m_MX4_boundLine n_MX4_boundLine e_MX4_boundLine rfl (by omega) (by assumption) rfl rfl (Nat.le_of_ble_eq_true rfl) ?_
      rintro _ _ _ (⟨rfl, rfl, rfl⟩)
      try dsimp only [zov, Option.toList, List.cons_append, List.nil_append]
      refine z_iconst (pc := 142) (v := nI 1) dX4_areSumsBounded_142 (by decide) ?_
      refine z_zret (pc := 143) dX4_areSumsBounded_143 rfl (by first | decide | assumption) ?_
      have ez : zpl n m1 6 = q9 := by unfold zpl; rw [if_neg (by omega), if_neg (by omega), eq9]; rfl
      have ho : ∀ l, l ≠ 6 → (zup (zup I (r + 4) 6 (nI (zdn q9))) (r + 5) 6 (nI (zhi q9))) (r + 4) l = I (r + 4) l ∧ (zup (zup I (r + 4) 6 (nI (zdn q9))) (r + 5) 6 (nI (zhi q9))) (r + 5) l = I (r + 5) l := fun l hl => ⟨by rw [zup_o (by omega)]; exact zup_n _ _ (fun q => hl q.2), by rw [zup_n _ _ (fun q => hl q.2), zup_o (by omega)]⟩
      refine hk rfl _ _ (fun l a1 a2 => ?_) (fun l a1 a2 => ?_) (fun l a1 a2 => ?_) (fun x p1 p2 => by rw [zup_o p2, zup_o p1]; exact hfi x p1 p2) hfj
      · rw [(ho l (by omega)).1, (ho l (by omega)).2]; exact hbd l a1 a2
      · rw [(ho l (by omega)).1, (ho l (by omega)).2]; exact hbc l a1 a2
      · obtain rfl : l = 6 := (by omega)
        rw [zup_o (by omega), zup_s, zup_s, ez]
        exact ⟨rfl, rfl⟩
  | succ f ih =>
    intro j q9 I J hj eq9 hV hU h8 hj0 hj1 hp9 hbd hbc hfi hfj hk hn
    refine z_iload_n (pc := 89) dX4_areSumsBounded_89 rfl rfl ?_
    refine z_aload_n (pc := 90) dX4_areSumsBounded_90 rfl rfl ?_
    refine z_getIv (pc := 91) dX4_areSumsBounded_91 f_RX4_47 (by assumption) rfl (by first | assumption | rfl) ?_
    first | refine z_icmp_geN (pc := 94) (tgt := 132) (by with_reducible rfl) (by with_reducible rfl) dX4_areSumsBounded_94 (by decide) (by omega) (by omega) (fun hb94 => absurd hb94 (by omega)) (fun hb94 => ?_) | refine z_icmp_ge (pc := 94) (tgt := 132) dX4_areSumsBounded_94 (by decide) (fun hb94 => absurd hb94 (by omega)) (fun hb94 => ?_)
    · skip
      refine z_aload_n (pc := 97) dX4_areSumsBounded_97 rfl rfl ?_
      refine z_aload_n (pc := 98) dX4_areSumsBounded_98 rfl rfl ?_
      refine z_iconst (pc := 99) (v := nI 1) dX4_areSumsBounded_99 (by decide) ?_
      refine z_iload_n (pc := 100) dX4_areSumsBounded_100 rfl rfl ?_
      refine z_aload_n (pc := 101) dX4_areSumsBounded_101 rfl rfl ?_
      refine z_getR (pc := 102) dX4_areSumsBounded_102 f_RX4_30 (by assumption) rfl ?_
      refine z_callV (pc := 105) (c_X7_isSummed (w := 1) (by assumption) (by assumption) (by assumption) (by assumption) hU hb (by assumption) (by omega) (by omega) (by omega) (by omega)) dX4_areSumsBounded_105 l_RX4_64 m_MX7_isSummed n_MX7_isSummed e_MX7_isSummed rfl (by omega) (by assumption) rfl rfl (Nat.le_of_ble_eq_true rfl) ?_
      rintro _ _ _ ⟨⟨rfl, q, eq1, e0, e1⟩ | ⟨rfl, eq1⟩, rfl, hfr1⟩
      · have hbq := zsm_bd hb eq1
        try dsimp only [zov, Option.toList, List.cons_append, List.nil_append]
        first | refine z_if_neN (pc := 108) (tgt := 113) (by with_reducible rfl) dX4_areSumsBounded_108 (by decide) (by omega) (fun hb108 => ?_) (fun hb108 => absurd hb108 (by decide)) | refine z_if_ne (pc := 108) (tgt := 113) dX4_areSumsBounded_108 (by decide) (fun hb108 => ?_) (fun hb108 => absurd hb108 (by decide))
        · skip
          refine z_aload_n (pc := 113) dX4_areSumsBounded_113 rfl rfl ?_
          refine z_iconst (pc := 114) (v := nI 1) dX4_areSumsBounded_114 (by decide) ?_
          refine z_iload_n (pc := 115) dX4_areSumsBounded_115 rfl rfl ?_
          refine z_callN (pc := 116) c_X9_place dX4_areSumsBounded_116 zN_70 m_MX9_place s_MX9_place rfl (by omega) rfl (Nat.le_of_ble_eq_true rfl) ?_
          rintro _ _ _ (⟨rfl, rfl, rfl⟩)
          try dsimp only [zov, Option.toList, List.cons_append, List.nil_append]
          refine z_aload_n (pc := 119) dX4_areSumsBounded_119 rfl rfl ?_
          refine z_getR (pc := 120) dX4_areSumsBounded_120 f_RX4_30 (by assumption) rfl ?_
          refine z_callV (pc := 123) (c_X4_boundLine (p := q) (by assumption) (by assumption) e0 e1 hbq (by omega)) dX4_areSumsBounded_123 l_RX4_74 m_MX4_boundLine n_MX4_boundLine e_MX4_boundLine rfl (by omega) (by assumption) rfl rfl (Nat.le_of_ble_eq_true rfl) ?_
          rintro _ _ _ (⟨rfl, rfl, rfl⟩)
          try dsimp only [zov, Option.toList, List.cons_append, List.nil_append]
          first | refine z_iincN (pc := 126) (c := 1) dX4_areSumsBounded_126 rfl (by with_reducible rfl) (by decide) (by decide) rfl ?_ | refine z_iinc (pc := 126) dX4_areSumsBounded_126 rfl rfl (by decide) rfl ?_
          try dsimp only [zst1, zst2, zk]
          refine z_goto (pc := 129) (tgt := 89) dX4_areSumsBounded_129 (by decide) ?_
          have ez : zpl n m1 (3 * 1 + j) = q := by unfold zpl; rw [if_neg (by omega), if_pos (by omega), show 3 * 1 + j - 3 = j by omega, eq1]; rfl
          have ho : ∀ l, l ≠ 3 * 1 + j → (zup (zup I (r + 4) (3 * 1 + j) (nI (zdn q))) (r + 5) (3 * 1 + j) (nI (zhi q))) (r + 4) l = I (r + 4) l ∧ (zup (zup I (r + 4) (3 * 1 + j) (nI (zdn q))) (r + 5) (3 * 1 + j) (nI (zhi q))) (r + 5) l = I (r + 5) l := fun l hl => ⟨by rw [zup_o (by omega)]; exact zup_n _ _ (fun q => hl q.2), by rw [zup_n _ _ (fun q => hl q.2), zup_o (by omega)]⟩
          refine ih (j + 1) q9 _ _ (by omega) eq9 (vS_to hV ?_ ?_ ?_ ?_) (vT_to hU ?_ (hfr1 _ (by omega)) (hfr1 _ (by omega))) ?_ ((congrFun (hfr1 (r + 7) (by omega)) 0).trans hj0) ((congrFun (hfr1 (r + 7) (by omega)) 1).trans hj1) hp9 ?_ ?_ ?_ (fun x p1 p2 => (hfr1 x p1).trans (hfj x p1 p2)) (fun e => hk (by simp only [zcok, eq1, Option.isSome, Bool.true_and]; exact e)) (fun e => hn (by simp only [zcok, eq1, Option.isSome, Bool.true_and]; exact e))
          · rw [zup_o (by omega), zup_o (by omega)]
          · rw [zup_o (by omega), zup_o (by omega)]
          · rw [zup_o (by omega), zup_o (by omega)]
          · rw [zup_o (by omega), zup_o (by omega)]
          · rw [zup_o (by omega), zup_o (by omega)]
          · rw [zup_o (by omega), zup_o (by omega)]; exact h8
          · intro l a1 a2
            rw [(ho l (by omega)).1, (ho l (by omega)).2]; exact hbd l a1 a2
          · intro l a1 a2
            by_cases e : l = 3 * 1 + j
            · subst e
              rw [zup_o (by omega), zup_s, zup_s, ez]
              exact ⟨rfl, rfl⟩
            · rw [(ho l e).1, (ho l e).2]; exact hbc l a1 (by omega)
          · intro x p1 p2
            rw [zup_o p2, zup_o p1]; exact hfi x p1 p2
      · skip
        try dsimp only [zov, Option.toList, List.cons_append, List.nil_append]
        first | refine z_if_neN (pc := 108) (tgt := 113) (by with_reducible rfl) dX4_areSumsBounded_108 (by decide) (by omega) (fun hb108 => absurd hb108 (by decide)) (fun hb108 => ?_) | refine z_if_ne (pc := 108) (tgt := 113) dX4_areSumsBounded_108 (by decide) (fun hb108 => absurd hb108 (by decide)) (fun hb108 => ?_)
        · skip
          refine z_iconst (pc := 111) (v := nI 0) dX4_areSumsBounded_111 (by decide) ?_
          refine z_zret (pc := 112) dX4_areSumsBounded_112 rfl (by first | decide | assumption) ?_
          exact hn (by simp only [zcok, eq1, Option.isSome, Bool.false_and]) _ _ hfi (fun x p1 p2 => (hfr1 x p1).trans (hfj x p1 p2))
set_option maxHeartbeats 2000000 in
set_option maxRecDepth 20000 in
theorem c_X4_areSumsBounded {lay : List zL} {I : zI} {J : zJ} {r0 s t : Nat} {n m1 : Nat → Nat} (hS : kS lay s) (hV : vS I s n) (hB : bS n) (hT : kT lay t) (hU : vT I J t m1) (hb : bT m1) (hR : kR lay r0) (hrs : r0 + 7 < s ∨ s + 3 < r0) (hrt : r0 + 7 < t ∨ t + 4 < r0) (h7 : I r0 7 = nI (n 0)) (h8 : I r0 8 = nI (n 1)) : zMet lay MX4_areSumsBounded 3 [.ref r0, .ref s, .ref t] I J (fun r I' J' => ((r = .int (nI 1) ∧ zfnd n m1 ∧ zbds I' r0 n m1 0 (n 0) ∧ zbds I' r0 n m1 3 (3 + n 1) ∧ zbds I' r0 n m1 6 7) ∨ (r = .int (nI 0) ∧ ¬ zfnd n m1)) ∧ (∀ x, x ≠ r0 + 4 → x ≠ r0 + 5 → I' x = I x) ∧ ∀ x, x ≠ r0 + 6 → x ≠ r0 + 7 → J' x = J x) := by
  refine zMet_of (t := MX4_areSumsBounded) (ls := [.ref r0, .ref s, .ref t, .null]) (by decide +kernel) (Nat.le_of_ble_eq_true rfl) rfl ?_
  obtain ⟨q0, ⟨q1, q2, q3⟩, ⟨q4, q5⟩, q6, q7⟩ := id hR
  refine z_aload_n (pc := 0) dX4_areSumsBounded_0 rfl rfl ?_
  refine z_getR (pc := 1) dX4_areSumsBounded_1 f_RX4_34 (by assumption) rfl ?_
  refine z_lconst (pc := 4) (v := lN 0) dX4_areSumsBounded_4 rfl ?_
  refine z_lconst (pc := 5) (v := lN 1) dX4_areSumsBounded_5 rfl ?_
  refine z_callV (pc := 6) (c_X0_become (x := 0) (y := 1) (by assumption) (by omega) (by omega) (by omega)) dX4_areSumsBounded_6 l_RX4_60 m_MX0_become n_MX0_become e_MX0_become rfl (by omega) (by assumption) rfl rfl (Nat.le_of_ble_eq_true rfl) ?_
  rintro _ _ _ (⟨rfl, rfl, rfl⟩)
  try dsimp only [zov, Option.toList, List.cons_append, List.nil_append]
  refine z_iconst (pc := 9) (v := nI 0) dX4_areSumsBounded_9 (by decide) ?_
  refine z_istore_n (pc := 10) dX4_areSumsBounded_10 rfl (by decide) rfl ?_
  try dsimp only [zst1, zst2, zk]
  refine l_X4_rows (I0 := I) (J0 := J) hS hB hT hb hR hrs hrt (n 0) 0 (0, 1) _ _ (Nat.zero_add _) hV (vT_to hU rfl (by rw [zup_o (by omega), zup_o (by omega)]) (by rw [zup_o (by omega), zup_o (by omega)])) h7 zf0 zf1 ⟨by decide, by decide, by decide⟩ (fun l a1 a2 => by omega) (fun _ _ _ => rfl) (fun x p1 p2 => by rw [zup_o p2, zup_o p2]) (fun q9 I' J' eq9 hV2 hU2 hj0 hj1 hp9 hbd hfi hfj => ?_) (fun e I' J' hfi hfj => ⟨Or.inr ⟨rfl, fun h => h.1 e⟩, hfi, hfj⟩)
  have h82 : I' r0 8 = nI (n 1) := by rw [hfi _ (by omega) (by omega)]; exact h8
  refine z_iconst (pc := 87) (v := nI 0) dX4_areSumsBounded_87 (by decide) ?_
  refine z_istore_n (pc := 88) dX4_areSumsBounded_88 rfl (by decide) rfl ?_
  try dsimp only [zst1, zst2, zk]
  exact l_X4_cols (I0 := I) (J0 := J) hS hB hT hb hR hrs hrt (n 1) 0 q9 I' J' (Nat.zero_add _) eq9 hV2 hU2 h82 hj0 hj1 hp9 hbd (fun l a1 a2 => by omega) hfi hfj (fun e I2 J2 d1 d2 d3 d4 d5 => ⟨Or.inl ⟨rfl, ⟨by rw [eq9]; exact fun h => (by cases h), e⟩, d1, d2, d3⟩, d4, d5⟩) (fun e I2 J2 d4 d5 => ⟨Or.inr ⟨rfl, fun h => by rw [h.2] at e; cases e⟩, d4, d5⟩)
