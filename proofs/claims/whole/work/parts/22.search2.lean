/-! ===== whole numbers: the search itself ===== -/
theorem zagr_w {I : zI} {r p q : Nat} {n v : Nat → Nat} (h : zagr I r n v p) (hq : ∀ k, k < q → k / 3 < n 0 → k % 3 < n 1 → k < p) : zagr I r n v q := fun k a b c => h k (hq k a b c) b c
theorem zagr_set {I I2 : zI} {r p x : Nat} {n v : Nat → Nat} (h : zagr I r n v p) (hI : ∀ k, k < p → I2 (r + 1) k = I (r + 1) k) (hx : x ≤ 1000000) : zagr (zup I2 (r + 1) p (nI x)) r n (zset1 v p x) (p + 1) := by
  intro k h1 h2 h3
  rw [zup_a]
  show (if k = p then _ else I2 (r + 1) k) = nI (zset1 v p x k) ∧ _
  unfold zset1
  by_cases e : k = p
  · rw [if_pos e, if_pos e]
    exact ⟨rfl, hx⟩
  · rw [if_neg e, if_neg e, hI k (by omega)]
    exact h k (by omega) h2 h3
theorem zpf_1 {n m1 v : Nat → Nat} {u i j : Nat} (h : n 0 ≤ i) : zpf n m1 (u + 1) i j v = (if (zallb (fun j => zst n m1 (3 + j) (zcs n v j)) (n 1) 0 && zst n m1 6 (zas n v)) = true then some v else none) := if_pos h
theorem zpf_2 {n m1 v : Nat → Nat} {u i j : Nat} (h : ¬ n 0 ≤ i) (h2 : n 1 ≤ j) : zpf n m1 (u + 1) i j v = (if zst n m1 i (zrs n v i) = true then zpf n m1 u (i + 1) 0 v else none) := (if_neg h).trans (if_pos h2)
theorem zpf_3 {n m1 v : Nat → Nat} {u i j : Nat} (h : ¬ n 0 ≤ i) (h2 : ¬ n 1 ≤ j) : zpf n m1 (u + 1) i j v = ztry (fun x => zpf n m1 u i (j + 1) (zset1 v (3 * i + j) x)) (zhi (m1 (34 + (3 * i + j)), m1 (43 + (3 * i + j))) + 1 - zdn (m1 (34 + (3 * i + j)), m1 (43 + (3 * i + j)))) (zdn (m1 (34 + (3 * i + j)), m1 (43 + (3 * i + j)))) := (if_neg h).trans (if_neg h2)
/-- the contract of the search at a depth -/
def zPF (lay : List zL) (J : zJ) (r0 : Nat) (n m1 : Nat → Nat) (u i j : Nat) : Prop := ∀ (I : zI) (v : Nat → Nat), zRH I r0 n m1 → zagr I r0 n v (3 * i + j) → zMet lay MX4_isPutFrom (4 + u) [.ref r0, .int (nI i), .int (nI j)] I J (fun r I' J' => ((r = .int (nI 1) ∧ ∃ w, zpf n m1 u i j v = some w ∧ zagr I' r0 n w 9) ∨ (r = .int (nI 0) ∧ zpf n m1 u i j v = none ∧ ∀ k, k < 3 * i + j → I' (r0 + 1) k = I (r0 + 1) k)) ∧ (∀ x, x ≠ r0 + 1 → I' x = I x) ∧ J = J')
set_option maxHeartbeats 2000000 in
set_option maxRecDepth 20000 in
theorem l_X4_isPutFrom {lay : List zL} {Q : Value → zI → zJ → Prop} {J : zJ} {r0 u i j : Nat} {n m1 v : Nat → Nat} {I0 : zI} (hR : kR lay r0) (hH0 : zRH I0 r0 n m1) (hB : bS n) (hb : bT m1) (hi : i < n 0) (hj : j < n 1) (hv : zagr I0 r0 n v (3 * i + j)) (hP : zPF lay J r0 n m1 u i (j + 1)) : ∀ (c x : Nat) (I : zI), x + c = zhi (m1 (34 + (3 * i + j)), m1 (43 + (3 * i + j))) + 1 → (∀ y, y ≠ r0 + 1 → I y = I0 y) → (∀ k, k < 3 * i + j → I (r0 + 1) k = I0 (r0 + 1) k) → (∀ w I', ztry (fun x => zpf n m1 u i (j + 1) (zset1 v (3 * i + j) x)) c x = some w → zagr I' r0 n w 9 → (∀ y, y ≠ r0 + 1 → I' y = I0 y) → Q (.int (nI 1)) I' J) → (ztry (fun x => zpf n m1 u i (j + 1) (zset1 v (3 * i + j) x)) c x = none → ∀ I', (∀ y, y ≠ r0 + 1 → I' y = I0 y) → (∀ k, k < 3 * i + j → I' (r0 + 1) k = I0 (r0 + 1) k) → Q (.int (nI 0)) I' J) → Z lay MX4_isPutFrom (4 + (u + 1)) 90 [.ref r0, .int (nI i), .int (nI j), .int (nI (3 * i + j)), .int (nI x)] [] I J Q := by
  have hR' := hR
  obtain ⟨q0, ⟨q1, q2, q3⟩, ⟨q4, q5⟩, q6, q7⟩ := hR
  obtain ⟨b1, b2, b3, b4, b5, b6, b7, b8⟩ := id hB
  have hbk := hb (3 * i + j) (by omega)
  have hhi := zhi_le (p := (m1 (34 + (3 * i + j)), m1 (43 + (3 * i + j)))) hbk
  intro c
  induction c with
  | zero =>
    intro x I hx hfr hlo hq hn
    have hH := zRH_to hH0 hfr
    obtain ⟨g7, g8, glo, ghi, gb0, gb3, gb6⟩ := id hH
    refine z_iload (pc := 90) dX4_isPutFrom_90 rfl ?_
    refine z_aload_n (pc := 92) dX4_isPutFrom_92 rfl rfl ?_
    refine z_getR (pc := 93) dX4_isPutFrom_93 f_RX4_18 (by assumption) rfl ?_
    refine z_iload_n (pc := 96) dX4_isPutFrom_96 rfl rfl ?_
    refine z_ialoadv (pc := 97) dX4_isPutFrom_97 (by assumption) (by with_reducible rfl) (by omega) (by decide) (by first | assumption | exact ghi _ (by omega) | rfl) ?_
    first | refine z_icmp_gtN (pc := 98) (tgt := 128) (by with_reducible rfl) (by with_reducible rfl) dX4_isPutFrom_98 (by decide) (by omega) (by omega) (fun hb98 => ?_) (fun hb98 => absurd hb98 (by omega)) | refine z_icmp_gt (pc := 98) (tgt := 128) dX4_isPutFrom_98 (by decide) (fun hb98 => ?_) (fun hb98 => absurd hb98 (by omega))
    · skip
      refine z_iconst (pc := 128) (v := nI 0) dX4_isPutFrom_128 (by decide) ?_
      refine z_zret (pc := 129) dX4_isPutFrom_129 rfl (by first | decide | assumption) ?_
      exact hn rfl _ hfr hlo
  | succ c ih =>
    intro x I hx hfr hlo hq hn
    have hH := zRH_to hH0 hfr
    obtain ⟨g7, g8, glo, ghi, gb0, gb3, gb6⟩ := id hH
    refine z_iload (pc := 90) dX4_isPutFrom_90 rfl ?_
    refine z_aload_n (pc := 92) dX4_isPutFrom_92 rfl rfl ?_
    refine z_getR (pc := 93) dX4_isPutFrom_93 f_RX4_18 (by assumption) rfl ?_
    refine z_iload_n (pc := 96) dX4_isPutFrom_96 rfl rfl ?_
    refine z_ialoadv (pc := 97) dX4_isPutFrom_97 (by assumption) (by with_reducible rfl) (by omega) (by decide) (by first | assumption | exact ghi _ (by omega) | rfl) ?_
    first | refine z_icmp_gtN (pc := 98) (tgt := 128) (by with_reducible rfl) (by with_reducible rfl) dX4_isPutFrom_98 (by decide) (by omega) (by omega) (fun hb98 => absurd hb98 (by omega)) (fun hb98 => ?_) | refine z_icmp_gt (pc := 98) (tgt := 128) dX4_isPutFrom_98 (by decide) (fun hb98 => absurd hb98 (by omega)) (fun hb98 => ?_)
    · skip
      refine z_aload_n (pc := 101) dX4_isPutFrom_101 rfl rfl ?_
      refine z_getR (pc := 102) dX4_isPutFrom_102 f_RX4_9 (by assumption) rfl ?_
      refine z_iload_n (pc := 105) dX4_isPutFrom_105 rfl rfl ?_
      refine z_iload (pc := 106) dX4_isPutFrom_106 rfl ?_
      refine z_iastore (pc := 108) dX4_isPutFrom_108 (by assumption) (by with_reducible rfl) (by omega) (by decide) ?_
      refine z_aload_n (pc := 109) dX4_isPutFrom_109 rfl rfl ?_
      refine z_iload_n (pc := 110) dX4_isPutFrom_110 rfl rfl ?_
      refine z_iload_n (pc := 111) dX4_isPutFrom_111 rfl rfl ?_
      refine z_iconst (pc := 112) (v := nI 1) dX4_isPutFrom_112 (by decide) ?_
      first | refine z_iaddN (pc := 113) (by with_reducible rfl) (by with_reducible rfl) dX4_isPutFrom_113 ?_ | refine z_iadd (pc := 113) dX4_isPutFrom_113 ?_
      refine z_callS (pc := 114) (hP _ (zset1 v (3 * i + j) x) (zRH_to hH (fun y hy => zup_o hy)) (zagr_set hv hlo (by omega))) dX4_isPutFrom_114 l_RX4_56 m_MX4_isPutFrom s_MX4_isPutFrom rfl (by omega) rfl (Nat.le_of_ble_eq_true rfl) ?_
      rintro _ _ _ ⟨⟨rfl, w, ew, hw⟩ | ⟨rfl, ew, hw⟩, hf2, rfl⟩
      · skip
        try dsimp only [zov, Option.toList, List.cons_append, List.nil_append]
        first | refine z_if_eqN (pc := 117) (tgt := 122) (by with_reducible rfl) dX4_isPutFrom_117 (by decide) (by omega) (fun hb117 => absurd hb117 (by decide)) (fun hb117 => ?_) | refine z_if_eq (pc := 117) (tgt := 122) dX4_isPutFrom_117 (by decide) (fun hb117 => absurd hb117 (by decide)) (fun hb117 => ?_)
        · skip
          refine z_iconst (pc := 120) (v := nI 1) dX4_isPutFrom_120 (by decide) ?_
          refine z_zret (pc := 121) dX4_isPutFrom_121 rfl (by first | decide | assumption) ?_
          exact hq w _ (by simp only [ztry, ew]) hw (fun y hy => (hf2 y hy).trans ((zup_o hy).trans (hfr y hy)))
      · skip
        try dsimp only [zov, Option.toList, List.cons_append, List.nil_append]
        first | refine z_if_eqN (pc := 117) (tgt := 122) (by with_reducible rfl) dX4_isPutFrom_117 (by decide) (by omega) (fun hb117 => ?_) (fun hb117 => absurd hb117 (by decide)) | refine z_if_eq (pc := 117) (tgt := 122) dX4_isPutFrom_117 (by decide) (fun hb117 => ?_) (fun hb117 => absurd hb117 (by decide))
        · skip
          first | refine z_iincN (pc := 122) (c := 1) dX4_isPutFrom_122 rfl (by with_reducible rfl) (by decide) (by decide) rfl ?_ | refine z_iinc (pc := 122) dX4_isPutFrom_122 rfl rfl (by decide) rfl ?_
          try dsimp only [zst1, zst2, zk]
          refine z_goto (pc := 125) (tgt := 90) dX4_isPutFrom_125 (by decide) ?_
          exact ih (x + 1) _ (by omega) (fun y hy => (hf2 y hy).trans ((zup_o hy).trans (hfr y hy))) (fun k hk => (hw k (by omega)).trans ((zup_n _ _ (by omega)).trans (hlo k hk))) (fun w I' e => hq w I' (by simp only [ztry, ew]; exact e)) (fun e => hn (by simp only [ztry, ew]; exact e))
set_option maxHeartbeats 4000000 in
set_option maxRecDepth 20000 in
theorem c_X4_isPutFrom {lay : List zL} {J : zJ} {r0 : Nat} {n m1 : Nat → Nat} (hR : kR lay r0) (hB : bS n) (hb : bT m1) : ∀ (u i j : Nat), 4 * (n 0 - i) + (n 1 - j) < u → i ≤ n 0 → j ≤ n 1 → zPF lay J r0 n m1 u i j := by
  have hR' := hR
  obtain ⟨q0, ⟨q1, q2, q3⟩, ⟨q4, q5⟩, q6, q7⟩ := hR
  obtain ⟨b1, b2, b3, b4, b5, b6, b7, b8⟩ := id hB
  intro u
  induction u with
  | zero => intro i j h; exact absurd h (by omega)
  | succ u ih =>
    intro i j hu hi hj I v hH hv
    obtain ⟨g7, g8, glo, ghi, gb0, gb3, gb6⟩ := id hH
    refine zMet_of (t := MX4_isPutFrom) (ls := [.ref r0, .int (nI i), .int (nI j), .null, .null]) (by decide +kernel) (Nat.le_of_ble_eq_true rfl) rfl ?_
    refine z_iload_n (pc := 0) dX4_isPutFrom_0 rfl rfl ?_
    refine z_aload_n (pc := 1) dX4_isPutFrom_1 rfl rfl ?_
    refine z_getIv (pc := 2) dX4_isPutFrom_2 f_RX4_43 (by assumption) rfl (by first | assumption | exact glo _ (by omega) | rfl) ?_
    first | refine z_icmp_ltN (pc := 5) (tgt := 34) (by with_reducible rfl) (by with_reducible rfl) dX4_isPutFrom_5 (by decide) (by omega) (by omega) (fun hb5 => ?_) (fun hb5 => ?_) | refine z_icmp_lt (pc := 5) (tgt := 34) dX4_isPutFrom_5 (by decide) (fun hb5 => ?_) (fun hb5 => ?_)
    · skip
      refine z_iload_n (pc := 34) dX4_isPutFrom_34 rfl rfl ?_
      refine z_aload_n (pc := 35) dX4_isPutFrom_35 rfl rfl ?_
      refine z_getIv (pc := 36) dX4_isPutFrom_36 f_RX4_47 (by assumption) rfl (by first | assumption | exact glo _ (by omega) | rfl) ?_
      first | refine z_icmp_ltN (pc := 39) (tgt := 76) (by with_reducible rfl) (by with_reducible rfl) dX4_isPutFrom_39 (by decide) (by omega) (by omega) (fun hb39 => ?_) (fun hb39 => ?_) | refine z_icmp_lt (pc := 39) (tgt := 76) dX4_isPutFrom_39 (by decide) (fun hb39 => ?_) (fun hb39 => ?_)
      · skip
        refine z_iload_n (pc := 76) dX4_isPutFrom_76 rfl rfl ?_
        refine z_iload_n (pc := 77) dX4_isPutFrom_77 rfl rfl ?_
        refine z_callN (pc := 78) c_X9_place dX4_isPutFrom_78 zN_70 m_MX9_place s_MX9_place rfl (by omega) rfl (Nat.le_of_ble_eq_true rfl) ?_
        rintro _ _ _ (⟨rfl, rfl, rfl⟩)
        try dsimp only [zov, Option.toList, List.cons_append, List.nil_append]
        refine z_istore_n (pc := 81) dX4_isPutFrom_81 rfl (by decide) rfl ?_
        try dsimp only [zst1, zst2, zk]
        refine z_aload_n (pc := 82) dX4_isPutFrom_82 rfl rfl ?_
        refine z_getR (pc := 83) dX4_isPutFrom_83 f_RX4_15 (by assumption) rfl ?_
        refine z_iload_n (pc := 86) dX4_isPutFrom_86 rfl rfl ?_
        refine z_ialoadv (pc := 87) dX4_isPutFrom_87 (by assumption) (by with_reducible rfl) (by omega) (by decide) (by first | assumption | exact glo _ (by omega) | rfl) ?_
        refine z_istore (pc := 88) dX4_isPutFrom_88 (by decide) rfl ?_
        try dsimp only [zst1, zst2, zk]
        have ez := zpf_3 (m1 := m1) (v := v) (u := u) (show ¬ n 0 ≤ i by omega) (show ¬ n 1 ≤ j by omega)
        have hdl : zdn (m1 (34 + (3 * i + j)), m1 (43 + (3 * i + j))) ≤ zhi (m1 (34 + (3 * i + j)), m1 (43 + (3 * i + j))) := Nat.le_add_right _ _
        exact l_X4_isPutFrom (I0 := I) (v := v) hR' hH hB hb (by omega) (by omega) hv (ih i (j + 1) (by omega) (by omega) (by omega)) (zhi (m1 (34 + (3 * i + j)), m1 (43 + (3 * i + j))) + 1 - zdn (m1 (34 + (3 * i + j)), m1 (43 + (3 * i + j)))) (zdn (m1 (34 + (3 * i + j)), m1 (43 + (3 * i + j)))) I (by omega) (fun _ _ => rfl) (fun _ _ => rfl) (fun w I' e h1 h2 => ⟨Or.inl ⟨rfl, w, by rw [ez]; exact e, h1⟩, h2, rfl⟩) (fun e I' h1 h2 => ⟨Or.inr ⟨rfl, by rw [ez]; exact e, h2⟩, h1, rfl⟩)
      · have hv4 : zagr I r0 n v (3 * (i + 1) + 0) := zagr_w hv (fun k a b c => by omega); have hrs := zrs_le hv (i := i) (by omega) b4 (by omega)
        refine z_aload_n (pc := 42) dX4_isPutFrom_42 rfl rfl ?_
        refine z_iconst (pc := 43) (v := nI 0) dX4_isPutFrom_43 (by decide) ?_
        refine z_iload_n (pc := 44) dX4_isPutFrom_44 rfl rfl ?_
        refine z_callN (pc := 45) c_X9_place dX4_isPutFrom_45 zN_70 m_MX9_place s_MX9_place rfl (by omega) rfl (Nat.le_of_ble_eq_true rfl) ?_
        rintro _ _ _ (⟨rfl, rfl, rfl⟩)
        try dsimp only [zov, Option.toList, List.cons_append, List.nil_append]
        rw [show 3 * 0 + i = i by omega]
        refine z_aload_n (pc := 48) dX4_isPutFrom_48 rfl rfl ?_
        refine z_iload_n (pc := 49) dX4_isPutFrom_49 rfl rfl ?_
        refine z_callV (pc := 50) (c_X4_rowPut (v := v) (by assumption) (by assumption) (by assumption) (by assumption) (by omega) (fun j2 hj2 => (hv _ (by omega) (by omega) (by omega)).1)) dX4_isPutFrom_50 l_RX4_116 m_MX4_rowPut n_MX4_rowPut e_MX4_rowPut rfl (by omega) (by assumption) rfl rfl (Nat.le_of_ble_eq_true rfl) ?_
        rintro _ _ _ (⟨rfl, rfl, rfl⟩)
        try dsimp only [zov, Option.toList, List.cons_append, List.nil_append]
        refine z_callV (pc := 53) (c_X4_stands (n := n) (m1 := m1) (l := i) (by assumption) (by assumption) (by assumption) (by assumption) (by omega) (by omega)) dX4_isPutFrom_53 l_RX4_112 m_MX4_stands n_MX4_stands e_MX4_stands rfl (by omega) (by assumption) rfl rfl (Nat.le_of_ble_eq_true rfl) ?_
        rintro _ _ _ ⟨⟨rfl, hs⟩ | ⟨rfl, hs⟩, rfl, rfl⟩
        · skip
          try dsimp only [zov, Option.toList, List.cons_append, List.nil_append]
          first | refine z_if_eqN (pc := 56) (tgt := 74) (by with_reducible rfl) dX4_isPutFrom_56 (by decide) (by omega) (fun hb56 => absurd hb56 (by decide)) (fun hb56 => ?_) | refine z_if_eq (pc := 56) (tgt := 74) dX4_isPutFrom_56 (by decide) (fun hb56 => absurd hb56 (by decide)) (fun hb56 => ?_)
          · skip
            refine z_aload_n (pc := 59) dX4_isPutFrom_59 rfl rfl ?_
            refine z_iload_n (pc := 60) dX4_isPutFrom_60 rfl rfl ?_
            refine z_iconst (pc := 61) (v := nI 1) dX4_isPutFrom_61 (by decide) ?_
            first | refine z_iaddN (pc := 62) (by with_reducible rfl) (by with_reducible rfl) dX4_isPutFrom_62 ?_ | refine z_iadd (pc := 62) dX4_isPutFrom_62 ?_
            refine z_iconst (pc := 63) (v := nI 0) dX4_isPutFrom_63 (by decide) ?_
            refine z_callS (pc := 64) (ih (i + 1) 0 (by omega) (by omega) (by omega) _ v hH hv4) dX4_isPutFrom_64 l_RX4_56 m_MX4_isPutFrom s_MX4_isPutFrom rfl (by omega) rfl (Nat.le_of_ble_eq_true rfl) ?_
            rintro _ _ _ ⟨⟨rfl, w, ew, hw⟩ | ⟨rfl, ew, hw⟩, hf2, rfl⟩
            · skip
              try dsimp only [zov, Option.toList, List.cons_append, List.nil_append]
              first | refine z_if_eqN (pc := 67) (tgt := 74) (by with_reducible rfl) dX4_isPutFrom_67 (by decide) (by omega) (fun hb67 => absurd hb67 (by decide)) (fun hb67 => ?_) | refine z_if_eq (pc := 67) (tgt := 74) dX4_isPutFrom_67 (by decide) (fun hb67 => absurd hb67 (by decide)) (fun hb67 => ?_)
              · skip
                refine z_iconst (pc := 70) (v := nI 1) dX4_isPutFrom_70 (by decide) ?_
                refine z_goto (pc := 71) (tgt := 75) dX4_isPutFrom_71 (by decide) ?_
                refine z_zret (pc := 75) dX4_isPutFrom_75 rfl (by first | decide | assumption) ?_
                first
                  | (have ez := zpf_1 (m1 := m1) (v := v) (u := u) (j := j) (show n 0 ≤ i by omega); exact ⟨Or.inl ⟨rfl, v, by rw [ez, hd, hs]; rfl, zagr_w hv (fun k a b c => by omega)⟩, fun _ _ => rfl, rfl⟩)
                  | (have ez := zpf_1 (m1 := m1) (v := v) (u := u) (j := j) (show n 0 ≤ i by omega); exact ⟨Or.inr ⟨rfl, by rw [ez, hd, hs]; rfl, fun _ _ => rfl⟩, fun _ _ => rfl, rfl⟩)
                  | (have ez := zpf_1 (m1 := m1) (v := v) (u := u) (j := j) (show n 0 ≤ i by omega); exact ⟨Or.inr ⟨rfl, by rw [ez, hd]; rfl, fun _ _ => rfl⟩, fun _ _ => rfl, rfl⟩)
                  | (have ez := zpf_2 (m1 := m1) (v := v) (u := u) (show ¬ n 0 ≤ i by omega) (show n 1 ≤ j by omega); exact ⟨Or.inl ⟨rfl, w, by rw [ez, if_pos hs]; exact ew, hw⟩, hf2, rfl⟩)
                  | (have ez := zpf_2 (m1 := m1) (v := v) (u := u) (show ¬ n 0 ≤ i by omega) (show n 1 ≤ j by omega); exact ⟨Or.inr ⟨rfl, by rw [ez, if_pos hs]; exact ew, fun k hk => hw k (by omega)⟩, hf2, rfl⟩)
                  | (have ez := zpf_2 (m1 := m1) (v := v) (u := u) (show ¬ n 0 ≤ i by omega) (show n 1 ≤ j by omega); exact ⟨Or.inr ⟨rfl, by rw [ez, hs]; rfl, fun _ _ => rfl⟩, fun _ _ => rfl, rfl⟩)
                  | fail
            · skip
              try dsimp only [zov, Option.toList, List.cons_append, List.nil_append]
              first | refine z_if_eqN (pc := 67) (tgt := 74) (by with_reducible rfl) dX4_isPutFrom_67 (by decide) (by omega) (fun hb67 => ?_) (fun hb67 => absurd hb67 (by decide)) | refine z_if_eq (pc := 67) (tgt := 74) dX4_isPutFrom_67 (by decide) (fun hb67 => ?_) (fun hb67 => absurd hb67 (by decide))
              · skip
                refine z_iconst (pc := 74) (v := nI 0) dX4_isPutFrom_74 (by decide) ?_
                refine z_zret (pc := 75) dX4_isPutFrom_75 rfl (by first | decide | assumption) ?_
                first
                  | (have ez := zpf_1 (m1 := m1) (v := v) (u := u) (j := j) (show n 0 ≤ i by omega); exact ⟨Or.inl ⟨rfl, v, by rw [ez, hd, hs]; rfl, zagr_w hv (fun k a b c => by omega)⟩, fun _ _ => rfl, rfl⟩)
                  | (have ez := zpf_1 (m1 := m1) (v := v) (u := u) (j := j) (show n 0 ≤ i by omega); exact ⟨Or.inr ⟨rfl, by rw [ez, hd, hs]; rfl, fun _ _ => rfl⟩, fun _ _ => rfl, rfl⟩)
                  | (have ez := zpf_1 (m1 := m1) (v := v) (u := u) (j := j) (show n 0 ≤ i by omega); exact ⟨Or.inr ⟨rfl, by rw [ez, hd]; rfl, fun _ _ => rfl⟩, fun _ _ => rfl, rfl⟩)
                  | (have ez := zpf_2 (m1 := m1) (v := v) (u := u) (show ¬ n 0 ≤ i by omega) (show n 1 ≤ j by omega); exact ⟨Or.inl ⟨rfl, w, by rw [ez, if_pos hs]; exact ew, hw⟩, hf2, rfl⟩)
                  | (have ez := zpf_2 (m1 := m1) (v := v) (u := u) (show ¬ n 0 ≤ i by omega) (show n 1 ≤ j by omega); exact ⟨Or.inr ⟨rfl, by rw [ez, if_pos hs]; exact ew, fun k hk => hw k (by omega)⟩, hf2, rfl⟩)
                  | (have ez := zpf_2 (m1 := m1) (v := v) (u := u) (show ¬ n 0 ≤ i by omega) (show n 1 ≤ j by omega); exact ⟨Or.inr ⟨rfl, by rw [ez, hs]; rfl, fun _ _ => rfl⟩, fun _ _ => rfl, rfl⟩)
                  | fail
        · skip
          try dsimp only [zov, Option.toList, List.cons_append, List.nil_append]
          first | refine z_if_eqN (pc := 56) (tgt := 74) (by with_reducible rfl) dX4_isPutFrom_56 (by decide) (by omega) (fun hb56 => ?_) (fun hb56 => absurd hb56 (by decide)) | refine z_if_eq (pc := 56) (tgt := 74) dX4_isPutFrom_56 (by decide) (fun hb56 => ?_) (fun hb56 => absurd hb56 (by decide))
          · skip
            refine z_iconst (pc := 74) (v := nI 0) dX4_isPutFrom_74 (by decide) ?_
            refine z_zret (pc := 75) dX4_isPutFrom_75 rfl (by first | decide | assumption) ?_
            first
              | (have ez := zpf_1 (m1 := m1) (v := v) (u := u) (j := j) (show n 0 ≤ i by omega); exact ⟨Or.inl ⟨rfl, v, by rw [ez, hd, hs]; rfl, zagr_w hv (fun k a b c => by omega)⟩, fun _ _ => rfl, rfl⟩)
              | (have ez := zpf_1 (m1 := m1) (v := v) (u := u) (j := j) (show n 0 ≤ i by omega); exact ⟨Or.inr ⟨rfl, by rw [ez, hd, hs]; rfl, fun _ _ => rfl⟩, fun _ _ => rfl, rfl⟩)
              | (have ez := zpf_1 (m1 := m1) (v := v) (u := u) (j := j) (show n 0 ≤ i by omega); exact ⟨Or.inr ⟨rfl, by rw [ez, hd]; rfl, fun _ _ => rfl⟩, fun _ _ => rfl, rfl⟩)
              | (have ez := zpf_2 (m1 := m1) (v := v) (u := u) (show ¬ n 0 ≤ i by omega) (show n 1 ≤ j by omega); exact ⟨Or.inl ⟨rfl, w, by rw [ez, if_pos hs]; exact ew, hw⟩, hf2, rfl⟩)
              | (have ez := zpf_2 (m1 := m1) (v := v) (u := u) (show ¬ n 0 ≤ i by omega) (show n 1 ≤ j by omega); exact ⟨Or.inr ⟨rfl, by rw [ez, if_pos hs]; exact ew, fun k hk => hw k (by omega)⟩, hf2, rfl⟩)
              | (have ez := zpf_2 (m1 := m1) (v := v) (u := u) (show ¬ n 0 ≤ i by omega) (show n 1 ≤ j by omega); exact ⟨Or.inr ⟨rfl, by rw [ez, hs]; rfl, fun _ _ => rfl⟩, fun _ _ => rfl, rfl⟩)
              | fail
    · have hv3 : zagr I r0 n v (3 * n 0) := zagr_w hv (fun k a b c => by omega); have has := zas_le hv3 b2 b4 (Nat.le_refl _)
      refine z_aload_n (pc := 8) dX4_isPutFrom_8 rfl rfl ?_
      refine z_callV (pc := 9) (c_X4_doColumnsStand (v := v) (by assumption) (by assumption) (by assumption) (by assumption) hv3) dX4_isPutFrom_9 l_RX4_105 m_MX4_doColumnsStand n_MX4_doColumnsStand e_MX4_doColumnsStand rfl (by omega) (by assumption) rfl rfl (Nat.le_of_ble_eq_true rfl) ?_
      rintro _ _ _ ⟨⟨rfl, hd⟩ | ⟨rfl, hd⟩, rfl, rfl⟩
      · skip
        try dsimp only [zov, Option.toList, List.cons_append, List.nil_append]
        first | refine z_if_eqN (pc := 12) (tgt := 32) (by with_reducible rfl) dX4_isPutFrom_12 (by decide) (by omega) (fun hb12 => absurd hb12 (by decide)) (fun hb12 => ?_) | refine z_if_eq (pc := 12) (tgt := 32) dX4_isPutFrom_12 (by decide) (fun hb12 => absurd hb12 (by decide)) (fun hb12 => ?_)
        · skip
          refine z_aload_n (pc := 15) dX4_isPutFrom_15 rfl rfl ?_
          refine z_bipush (pc := 16) (v := nI 6) dX4_isPutFrom_16 (by decide) ?_
          refine z_aload_n (pc := 18) dX4_isPutFrom_18 rfl rfl ?_
          refine z_callV (pc := 19) (c_X4_allPut (v := v) (by assumption) (by assumption) (by assumption) (by assumption) hv3) dX4_isPutFrom_19 l_RX4_108 m_MX4_allPut n_MX4_allPut e_MX4_allPut rfl (by omega) (by assumption) rfl rfl (Nat.le_of_ble_eq_true rfl) ?_
          rintro _ _ _ (⟨rfl, rfl, rfl⟩)
          try dsimp only [zov, Option.toList, List.cons_append, List.nil_append]
          refine z_callV (pc := 22) (c_X4_stands (n := n) (m1 := m1) (l := 6) (by assumption) (by assumption) (by assumption) (by assumption) (by omega) (by omega)) dX4_isPutFrom_22 l_RX4_112 m_MX4_stands n_MX4_stands e_MX4_stands rfl (by omega) (by assumption) rfl rfl (Nat.le_of_ble_eq_true rfl) ?_
          rintro _ _ _ ⟨⟨rfl, hs⟩ | ⟨rfl, hs⟩, rfl, rfl⟩
          · skip
            try dsimp only [zov, Option.toList, List.cons_append, List.nil_append]
            first | refine z_if_eqN (pc := 25) (tgt := 32) (by with_reducible rfl) dX4_isPutFrom_25 (by decide) (by omega) (fun hb25 => absurd hb25 (by decide)) (fun hb25 => ?_) | refine z_if_eq (pc := 25) (tgt := 32) dX4_isPutFrom_25 (by decide) (fun hb25 => absurd hb25 (by decide)) (fun hb25 => ?_)
            · skip
              refine z_iconst (pc := 28) (v := nI 1) dX4_isPutFrom_28 (by decide) ?_
              refine z_goto (pc := 29) (tgt := 33) dX4_isPutFrom_29 (by decide) ?_
              refine z_zret (pc := 33) dX4_isPutFrom_33 rfl (by first | decide | assumption) ?_
              first
                | (have ez := zpf_1 (m1 := m1) (v := v) (u := u) (j := j) (show n 0 ≤ i by omega); exact ⟨Or.inl ⟨rfl, v, by rw [ez, hd, hs]; rfl, zagr_w hv (fun k a b c => by omega)⟩, fun _ _ => rfl, rfl⟩)
                | (have ez := zpf_1 (m1 := m1) (v := v) (u := u) (j := j) (show n 0 ≤ i by omega); exact ⟨Or.inr ⟨rfl, by rw [ez, hd, hs]; rfl, fun _ _ => rfl⟩, fun _ _ => rfl, rfl⟩)
                | (have ez := zpf_1 (m1 := m1) (v := v) (u := u) (j := j) (show n 0 ≤ i by omega); exact ⟨Or.inr ⟨rfl, by rw [ez, hd]; rfl, fun _ _ => rfl⟩, fun _ _ => rfl, rfl⟩)
                | (have ez := zpf_2 (m1 := m1) (v := v) (u := u) (show ¬ n 0 ≤ i by omega) (show n 1 ≤ j by omega); exact ⟨Or.inl ⟨rfl, w, by rw [ez, if_pos hs]; exact ew, hw⟩, hf2, rfl⟩)
                | (have ez := zpf_2 (m1 := m1) (v := v) (u := u) (show ¬ n 0 ≤ i by omega) (show n 1 ≤ j by omega); exact ⟨Or.inr ⟨rfl, by rw [ez, if_pos hs]; exact ew, fun k hk => hw k (by omega)⟩, hf2, rfl⟩)
                | (have ez := zpf_2 (m1 := m1) (v := v) (u := u) (show ¬ n 0 ≤ i by omega) (show n 1 ≤ j by omega); exact ⟨Or.inr ⟨rfl, by rw [ez, hs]; rfl, fun _ _ => rfl⟩, fun _ _ => rfl, rfl⟩)
                | fail
          · skip
            try dsimp only [zov, Option.toList, List.cons_append, List.nil_append]
            first | refine z_if_eqN (pc := 25) (tgt := 32) (by with_reducible rfl) dX4_isPutFrom_25 (by decide) (by omega) (fun hb25 => ?_) (fun hb25 => absurd hb25 (by decide)) | refine z_if_eq (pc := 25) (tgt := 32) dX4_isPutFrom_25 (by decide) (fun hb25 => ?_) (fun hb25 => absurd hb25 (by decide))
            · skip
              refine z_iconst (pc := 32) (v := nI 0) dX4_isPutFrom_32 (by decide) ?_
              refine z_zret (pc := 33) dX4_isPutFrom_33 rfl (by first | decide | assumption) ?_
              first
                | (have ez := zpf_1 (m1 := m1) (v := v) (u := u) (j := j) (show n 0 ≤ i by omega); exact ⟨Or.inl ⟨rfl, v, by rw [ez, hd, hs]; rfl, zagr_w hv (fun k a b c => by omega)⟩, fun _ _ => rfl, rfl⟩)
                | (have ez := zpf_1 (m1 := m1) (v := v) (u := u) (j := j) (show n 0 ≤ i by omega); exact ⟨Or.inr ⟨rfl, by rw [ez, hd, hs]; rfl, fun _ _ => rfl⟩, fun _ _ => rfl, rfl⟩)
                | (have ez := zpf_1 (m1 := m1) (v := v) (u := u) (j := j) (show n 0 ≤ i by omega); exact ⟨Or.inr ⟨rfl, by rw [ez, hd]; rfl, fun _ _ => rfl⟩, fun _ _ => rfl, rfl⟩)
                | (have ez := zpf_2 (m1 := m1) (v := v) (u := u) (show ¬ n 0 ≤ i by omega) (show n 1 ≤ j by omega); exact ⟨Or.inl ⟨rfl, w, by rw [ez, if_pos hs]; exact ew, hw⟩, hf2, rfl⟩)
                | (have ez := zpf_2 (m1 := m1) (v := v) (u := u) (show ¬ n 0 ≤ i by omega) (show n 1 ≤ j by omega); exact ⟨Or.inr ⟨rfl, by rw [ez, if_pos hs]; exact ew, fun k hk => hw k (by omega)⟩, hf2, rfl⟩)
                | (have ez := zpf_2 (m1 := m1) (v := v) (u := u) (show ¬ n 0 ≤ i by omega) (show n 1 ≤ j by omega); exact ⟨Or.inr ⟨rfl, by rw [ez, hs]; rfl, fun _ _ => rfl⟩, fun _ _ => rfl, rfl⟩)
                | fail
      · skip
        try dsimp only [zov, Option.toList, List.cons_append, List.nil_append]
        first | refine z_if_eqN (pc := 12) (tgt := 32) (by with_reducible rfl) dX4_isPutFrom_12 (by decide) (by omega) (fun hb12 => ?_) (fun hb12 => absurd hb12 (by decide)) | refine z_if_eq (pc := 12) (tgt := 32) dX4_isPutFrom_12 (by decide) (fun hb12 => ?_) (fun hb12 => absurd hb12 (by decide))
        · skip
          refine z_iconst (pc := 32) (v := nI 0) dX4_isPutFrom_32 (by decide) ?_
          refine z_zret (pc := 33) dX4_isPutFrom_33 rfl (by first | decide | assumption) ?_
          first
            | (have ez := zpf_1 (m1 := m1) (v := v) (u := u) (j := j) (show n 0 ≤ i by omega); exact ⟨Or.inl ⟨rfl, v, by rw [ez, hd, hs]; rfl, zagr_w hv (fun k a b c => by omega)⟩, fun _ _ => rfl, rfl⟩)
            | (have ez := zpf_1 (m1 := m1) (v := v) (u := u) (j := j) (show n 0 ≤ i by omega); exact ⟨Or.inr ⟨rfl, by rw [ez, hd, hs]; rfl, fun _ _ => rfl⟩, fun _ _ => rfl, rfl⟩)
            | (have ez := zpf_1 (m1 := m1) (v := v) (u := u) (j := j) (show n 0 ≤ i by omega); exact ⟨Or.inr ⟨rfl, by rw [ez, hd]; rfl, fun _ _ => rfl⟩, fun _ _ => rfl, rfl⟩)
            | (have ez := zpf_2 (m1 := m1) (v := v) (u := u) (show ¬ n 0 ≤ i by omega) (show n 1 ≤ j by omega); exact ⟨Or.inl ⟨rfl, w, by rw [ez, if_pos hs]; exact ew, hw⟩, hf2, rfl⟩)
            | (have ez := zpf_2 (m1 := m1) (v := v) (u := u) (show ¬ n 0 ≤ i by omega) (show n 1 ≤ j by omega); exact ⟨Or.inr ⟨rfl, by rw [ez, if_pos hs]; exact ew, fun k hk => hw k (by omega)⟩, hf2, rfl⟩)
            | (have ez := zpf_2 (m1 := m1) (v := v) (u := u) (show ¬ n 0 ≤ i by omega) (show n 1 ≤ j by omega); exact ⟨Or.inr ⟨rfl, by rw [ez, hs]; rfl, fun _ _ => rfl⟩, fun _ _ => rfl, rfl⟩)
            | fail
