/-! ===== the model's calls: tapes, judging ===== -/
theorem vM_tape {I I' : zI} {J J' : zJ} {S : zS} {so : Nat → Int32} {le : Nat → Nat} {it : Nat → Nat → Int64} (h : vM I J S) (hI : ∀ x y, x ≠ 93 → x ≠ 94 → I' x y = I x y) (hx : vMQ I' J' so le it) : vM I' J' (S.upQ so le it) := by
  obtain ⟨⟨q1, q2⟩, ⟨q4, q5, q6⟩, q7, q8⟩ := h
  exact ⟨⟨vW_to q1 (fun y => hI 80 y (by omega) (by omega)), q2⟩, ⟨(hI 79 3 (by omega) (by omega)).trans q4, q5, fun h1 => ⟨fun k hk => (hI 81 k (by omega) (by omega)).trans ((q6 h1).1 k hk), (q6 h1).2⟩⟩, vMT_to q7 (hI 79 5 (by omega) (by omega)) (fun y => hI 83 y (by omega) (by omega)), hx⟩
theorem zPM_tape {I I' : zI} {J J' : zJ} {S : zS} {p : Value × zS} {r : Value} {so : Nat → Int32} {le : Nat → Nat} {it : Nat → Nat → Int64} (h : vM I J S) (hI : ∀ x y, x ≠ 93 → x ≠ 94 → I' x y = I x y) (hJ : ∀ x y, x < 79 → J' x y = J x y) (hx : vMQ I' J' so le it) (e : p = (r, S.upQ so le it)) : zPM I J p r I' J' := by
  subst e
  exact ⟨rfl, vM_tape h hI hx, fun x hx => funext fun y => hI x y (by omega) (by omega), fun x hx => funext fun y => hJ x y hx⟩
theorem vMQ_new {I : zI} {J J' : zJ} {so : Nat → Int32} {le : Nat → Nat} {it : Nat → Nat → Int64} {t n : Nat} {s : Int32} (h : vMQ I J so le it) (ht : t < 6) (hn : n ≤ 60) (hs : s = -1 → n = 0) (hs2 : s = -1 ∨ ∃ a, a ≤ 4 ∧ s = nI a) (hJ0 : ∀ i, i < n → J' 95 (60 * t + i) = lN 0) (hJ : ∀ x y, ¬ (x = 95 ∧ 60 * t ≤ y ∧ y < 60 * t + 60) → J' x y = J x y) : vMQ (zup (zup I 93 t s) 94 t (nI n)) J' (fun x => if x = t then s else so x) (zset1 le t n) (fun x y => if x = t then lN 0 else it x y) := by
  obtain ⟨v0, v1, v2, v3⟩ := h
  refine ⟨fun u hu => ?_, fun u hu => ?_, fun u i hu hi => ?_, fun u hu => ?_⟩
  · show _ = if u = t then s else so u
    rw [zup_n _ _ (by omega)]
    by_cases q : u = t
    · rw [if_pos q, q]; exact zup_s _ _ _ _
    · rw [if_neg q, zup_n _ _ (by omega)]; exact v0 u hu
  · by_cases q : u = t
    · rw [q, zset1_s]; exact zup_s _ _ _ _
    · rw [zset1_o q, zup_n _ _ (by omega), zup_n _ _ (by omega)]; exact v1 u hu
  · show _ = if u = t then lN 0 else it u i
    by_cases q : u = t
    · rw [q, zset1_s] at hi
      rw [if_pos q, q]; exact hJ0 i hi
    · rw [zset1_o q] at hi
      have := (v3 u hu).1
      rw [if_neg q, hJ _ _ (by omega)]; exact v2 u i hu hi
  · show zset1 le t n u ≤ 60 ∧ ((if u = t then s else so u) = -1 → zset1 le t n u = 0) ∧ ((if u = t then s else so u) = -1 ∨ ∃ a, a ≤ 4 ∧ (if u = t then s else so u) = nI a)
    by_cases q : u = t
    · rw [q, zset1_s, if_pos rfl]; exact ⟨hn, hs, hs2⟩
    · rw [zset1_o q, if_neg q]; exact v3 u hu
theorem vMQ_put {I : zI} {J : zJ} {so : Nat → Int32} {le : Nat → Nat} {it : Nat → Nat → Int64} {t i : Nat} {v : Int64} (h : vMQ I J so le it) (ht : t < 6) (hi : i < le t) : vMQ I (zup J 95 (60 * t + i) v) so le (fun x y => if x = t ∧ y = i then v else it x y) := by
  obtain ⟨v0, v1, v2, v3⟩ := h
  refine ⟨v0, v1, fun u j hu hj => ?_, v3⟩
  show _ = if u = t ∧ j = i then v else it u j
  have h1 := (v3 u hu).1
  have h2 := (v3 t ht).1
  by_cases q : u = t ∧ j = i
  · rw [if_pos q, q.1, q.2]; exact zup_s _ _ _ _
  · rw [if_neg q, zup_n _ _ (by omega)]; exact v2 u j hu hj
theorem vMQ_move {I : zI} {J J' : zJ} {so : Nat → Int32} {le : Nat → Nat} {it : Nat → Nat → Int64} {t u a b n : Nat} (h : vMQ I J so le it) (ht : t < 6) (hu : u < 6) (h1 : a + n ≤ le t) (h2 : b + n ≤ le u) (hJ1 : ∀ i, i < n → J' 95 (60 * u + b + i) = J 95 (60 * t + a + i)) (hJ2 : ∀ z, ¬ (60 * u + b ≤ z ∧ z < 60 * u + b + n) → J' 95 z = J 95 z) : vMQ I J' so le (fun x y => if x = u ∧ b ≤ y ∧ y < b + n then it t (a + (y - b)) else it x y) := by
  obtain ⟨v0, v1, v2, v3⟩ := h
  refine ⟨v0, v1, fun w j hw hj => ?_, v3⟩
  show _ = if w = u ∧ b ≤ j ∧ j < b + n then it t (a + (j - b)) else it w j
  have l1 := (v3 w hw).1
  have l2 := (v3 u hu).1
  by_cases q : w = u ∧ b ≤ j ∧ j < b + n
  · rw [if_pos q]
    have := hJ1 (j - b) (by omega)
    rw [show 60 * u + b + (j - b) = 60 * w + j by omega] at this
    rw [this, Nat.add_assoc]
    exact v2 t _ ht (by omega)
  · rw [if_neg q, hJ2 _ (by omega)]; exact v2 w j hw hj
theorem zsl_i {le d : Nat} (hl : le ≤ 60) (hd : d < 2147483648) : (nI le - nI d).toInt = (le : Int) - d := by
  rw [Int32.toInt_sub, nI_toInt (by omega), nI_toInt hd, zbm32 (by omega) (by omega)]
theorem zsl_1 {le d x : Nat} (hl : le ≤ 60) (hd : d < 2147483648) (hx : x < 2147483648) : nI x < nI le - nI d ↔ x + d < le := by
  rw [Int32.lt_iff_toInt_lt, zsl_i hl hd, nI_toInt hx]
  omega
theorem zsl_2 {le d x : Nat} (hl : le ≤ 60) (hd : d < 2147483648) (hx : x < 2147483648) : nI le - nI d < nI x ↔ le < x + d := by
  rw [Int32.lt_iff_toInt_lt, zsl_i hl hd, nI_toInt hx]
  omega
theorem zsl_3 {le d x : Nat} (hl : le ≤ 60) (hd : d < 2147483648) (hx : x < 2147483648) : nI x ≤ nI le - nI d ↔ x + d ≤ le := by
  rw [Int32.le_iff_toInt_le, zsl_i hl hd, nI_toInt hx]
  omega
theorem zwt_n {s : Int32} (h : ¬ (s = -1 ∨ ∃ k, k ≤ 4 ∧ s = nI k)) : ¬ s = -1 ∧ (s < -1 ∨ nI 4 < s) := by
  refine ⟨fun e => h (Or.inl e), ?_⟩
  by_cases q : s < -1
  · exact Or.inl q
  · refine Or.inr (Classical.byContradiction fun q2 => h ?_)
    have e1 : (-1 : Int32).toInt = -1 := by decide
    rw [Int32.lt_iff_toInt_lt, e1] at q
    rw [Int32.lt_iff_toInt_lt, nI_toInt (by omega)] at q2
    by_cases q3 : s.toInt = -1
    · exact Or.inl (Int32.toInt_inj.mp (q3.trans e1.symm))
    · refine Or.inr ⟨s.toInt.toNat, by omega, Int32.toInt_inj.mp ?_⟩
      rw [nI_toInt (by omega)]
      omega
theorem zwt_p {s : Int32} (h : s = -1 ∨ ∃ k, k ≤ 4 ∧ s = nI k) (h1 : ¬ s = -1) : ¬ (s < -1 ∨ nI 4 < s) := by
  rcases h with h | ⟨k, hk, rfl⟩
  · exact absurd h h1
  · have e1 : (-1 : Int32).toInt = -1 := by decide
    rintro (q | q)
    · rw [Int32.lt_iff_toInt_lt, e1, nI_toInt (by omega)] at q; omega
    · rw [Int32.lt_iff_toInt_lt, nI_toInt (by omega), nI_toInt (by omega)] at q; omega
set_option maxHeartbeats 2000000 in
set_option maxRecDepth 20000 in
theorem c_X10_isTape {lay : List zL} {I : zI} {J : zJ} {t : Int32} : zMet lay MX10_isTape 1 [.int t] I J (fun r I' J' => ((r = .int (nI 1) ∧ isT t) ∨ (r = .int (nI 0) ∧ ¬ isT t)) ∧ I = I' ∧ J = J') := by
  refine zMet_of (t := MX10_isTape) (ls := [.int t]) (by decide +kernel) (Nat.le_of_ble_eq_true rfl) rfl ?_
  refine z_iload_n (pc := 0) dX10_isTape_0 rfl rfl ?_
  first | refine z_i2lN (pc := 1) (by with_reducible rfl) dX10_isTape_1 (by omega) ?_ | refine z_i2l (pc := 1) dX10_isTape_1 rfl ?_
  refine z_lconst (pc := 2) (v := lN 0) dX10_isTape_2 rfl ?_
  refine z_ldc2 (pc := 3) (v := lN 5) dX10_isTape_3 q_RX10_306 ?_
  refine z_callS (pc := 6) (c_X10_withinI (by omega) (by omega)) dX10_isTape_6 l_RX10_68 m_MX10_within s_MX10_within rfl (by omega) rfl (Nat.le_of_ble_eq_true rfl) ?_
  rintro _ _ _ ⟨⟨rfl, hc⟩ | ⟨rfl, hc⟩, rfl, rfl⟩
  · skip
    try dsimp only [zov, Option.toList, List.cons_append, List.nil_append]
    refine z_zret (pc := 9) dX10_isTape_9 rfl (by first | decide | assumption) ?_
    first
      | (obtain ⟨a, e, h1, h2⟩ := hc
         exact ⟨Or.inl ⟨rfl, a, e, by omega⟩, rfl, rfl⟩)
      | exact ⟨Or.inr ⟨rfl, fun ⟨a, e, h1⟩ => hc ⟨a, e, by omega, by omega⟩⟩, rfl, rfl⟩
      | fail
  · skip
    try dsimp only [zov, Option.toList, List.cons_append, List.nil_append]
    refine z_zret (pc := 9) dX10_isTape_9 rfl (by first | decide | assumption) ?_
    first
      | (obtain ⟨a, e, h1, h2⟩ := hc
         exact ⟨Or.inl ⟨rfl, a, e, by omega⟩, rfl, rfl⟩)
      | exact ⟨Or.inr ⟨rfl, fun ⟨a, e, h1⟩ => hc ⟨a, e, by omega, by omega⟩⟩, rfl, rfl⟩
      | fail
set_option maxHeartbeats 2000000 in
set_option maxRecDepth 20000 in
theorem l_X10_tape {lay : List zL} {Q : Value → zI → zJ → Prop} {d a z : Nat} {s n : Int32} {I : zI} {J0 : zJ} (hM : kM lay) (ha : a < 6) (hz : z ≤ 60) (hI : I 94 a = nI z) : ∀ (m k : Nat) (J : zJ), k + m = z → (∀ i, i < k → J 95 (60 * a + i) = lN 0) → (∀ x y, ¬ (x = 95 ∧ 60 * a ≤ y ∧ y < 60 * a + 60) → J x y = J0 x y) → (∀ J', (∀ i, i < z → J' 95 (60 * a + i) = lN 0) → (∀ x y, ¬ (x = 95 ∧ 60 * a ≤ y ∧ y < 60 * a + 60) → J' x y = J0 x y) → Q (.int (nI 1)) I J') → Z lay MX10_tape d 75 [.ref 79, .int (nI a), .int s, .int n, .int (nI k)] [] I J Q := by
  intro m
  induction m with
  | zero =>
    intro k J hk h1 h2 hq
    obtain rfl : k = z := (by omega)
    obtain ⟨mo, m80, m81, m82, m83, m84, m85, m86, m87, m88, m89, m90, m91, m92, m93, m94, m95, m96⟩ := id hM
    refine z_iload (pc := 75) dX10_tape_75 rfl ?_
    refine z_aload_n (pc := 77) dX10_tape_77 rfl rfl ?_
    refine z_getR (pc := 78) dX10_tape_78 f_RX10_55 (by assumption) rfl ?_
    refine z_iload_n (pc := 81) dX10_tape_81 rfl rfl ?_
    refine z_ialoadv (pc := 82) dX10_tape_82 (by assumption) (by with_reducible rfl) (by omega) (by decide) (by first | assumption | rfl) ?_
    first | refine z_icmp_geN (pc := 83) (tgt := 105) (by with_reducible rfl) (by with_reducible rfl) dX10_tape_83 (by decide) (by omega) (by omega) (fun hb83 => ?_) (fun hb83 => absurd hb83 (by omega)) | refine z_icmp_ge (pc := 83) (tgt := 105) dX10_tape_83 (by decide) (fun hb83 => ?_) (fun hb83 => absurd hb83 (by omega))
    · skip
      refine z_iconst (pc := 105) (v := nI 1) dX10_tape_105 (by decide) ?_
      refine z_iret (pc := 106) dX10_tape_106 rfl ?_
      exact hq J h1 h2
  | succ m ih =>
    intro k J hk h1 h2 hq
    obtain ⟨mo, m80, m81, m82, m83, m84, m85, m86, m87, m88, m89, m90, m91, m92, m93, m94, m95, m96⟩ := id hM
    refine z_iload (pc := 75) dX10_tape_75 rfl ?_
    refine z_aload_n (pc := 77) dX10_tape_77 rfl rfl ?_
    refine z_getR (pc := 78) dX10_tape_78 f_RX10_55 (by assumption) rfl ?_
    refine z_iload_n (pc := 81) dX10_tape_81 rfl rfl ?_
    refine z_ialoadv (pc := 82) dX10_tape_82 (by assumption) (by with_reducible rfl) (by omega) (by decide) (by first | assumption | rfl) ?_
    first | refine z_icmp_geN (pc := 83) (tgt := 105) (by with_reducible rfl) (by with_reducible rfl) dX10_tape_83 (by decide) (by omega) (by omega) (fun hb83 => absurd hb83 (by omega)) (fun hb83 => ?_) | refine z_icmp_ge (pc := 83) (tgt := 105) dX10_tape_83 (by decide) (fun hb83 => absurd hb83 (by omega)) (fun hb83 => ?_)
    · skip
      refine z_aload_n (pc := 86) dX10_tape_86 rfl rfl ?_
      refine z_getR (pc := 87) dX10_tape_87 f_RX10_58 (by assumption) rfl ?_
      refine z_bipush (pc := 90) (v := nI 60) dX10_tape_90 (by decide) ?_
      refine z_iload_n (pc := 92) dX10_tape_92 rfl rfl ?_
      first | refine z_imulN (pc := 93) (by with_reducible rfl) (by with_reducible rfl) dX10_tape_93 ?_ | refine z_imul (pc := 93) dX10_tape_93 ?_
      refine z_iload (pc := 94) dX10_tape_94 rfl ?_
      first | refine z_iaddN (pc := 96) (by with_reducible rfl) (by with_reducible rfl) dX10_tape_96 ?_ | refine z_iadd (pc := 96) dX10_tape_96 ?_
      refine z_lconst (pc := 97) (v := lN 0) dX10_tape_97 rfl ?_
      refine z_lastore (pc := 98) dX10_tape_98 (by assumption) (by with_reducible rfl) (by omega) (by decide) ?_
      first | refine z_iincN (pc := 99) (c := 1) dX10_tape_99 rfl (by with_reducible rfl) (by decide) (by decide) rfl ?_ | refine z_iinc (pc := 99) dX10_tape_99 rfl rfl (by decide) rfl ?_
      try dsimp only [zst1, zst2, zk]
      refine z_goto (pc := 102) (tgt := 75) dX10_tape_102 (by decide) ?_
      refine ih (k + 1) _ (by omega) (fun i hi => ?_) (fun x y h => (zup_n _ _ (by omega)).trans (h2 x y h)) hq
      by_cases e : i = k
      · rw [e]; exact zup_s _ _ _ _
      · rw [zup_n _ _ (by omega)]; exact h1 i (by omega)
set_option maxHeartbeats 2000000 in
set_option maxRecDepth 20000 in
theorem c_X10_tape {lay : List zL} {I : zI} {J : zJ} {S : zS} (hM : kM lay) (hV : vM I J S) {t s n : Int32} : zMet lay MX10_tape 2 [.ref 79, .int t, .int s, .int n] I J (fun r I' J' => zPM I J (ftape S t s n) r I' J') := by
  refine zMet_of (t := MX10_tape) (ls := [.ref 79, .int t, .int s, .int n, .null]) (by decide +kernel) (Nat.le_of_ble_eq_true rfl) rfl ?_
  obtain ⟨mo, m80, m81, m82, m83, m84, m85, m86, m87, m88, m89, m90, m91, m92, m93, m94, m95, m96⟩ := id hM
  obtain ⟨v0, v1, v2, v3⟩ := id hV.2.2.2
  refine z_iload_n (pc := 0) dX10_tape_0 rfl rfl ?_
  refine z_callS (pc := 1) c_X10_isTape dX10_tape_1 l_RX10_308 m_MX10_isTape s_MX10_isTape rfl (by omega) rfl (Nat.le_of_ble_eq_true rfl) ?_
  rintro _ _ _ ⟨⟨rfl, ht⟩ | ⟨rfl, ht⟩, rfl, rfl⟩
  · obtain ⟨a, rfl, ha⟩ := ht; have hva := v3 a ha; have hv0 := v0 a ha; have hv1 := v1 a ha
    try dsimp only [zov, Option.toList, List.cons_append, List.nil_append]
    first | refine z_if_neN (pc := 4) (tgt := 9) (by with_reducible rfl) dX10_tape_4 (by decide) (by omega) (fun hb4 => ?_) (fun hb4 => absurd hb4 (by decide)) | refine z_if_ne (pc := 4) (tgt := 9) dX10_tape_4 (by decide) (fun hb4 => ?_) (fun hb4 => absurd hb4 (by decide))
    · skip
      refine z_iload_n (pc := 9) dX10_tape_9 rfl rfl ?_
      first | refine z_i2lN (pc := 10) (by with_reducible rfl) dX10_tape_10 (by omega) ?_ | refine z_i2l (pc := 10) dX10_tape_10 rfl ?_
      refine z_ldc2 (pc := 11) (v := -1) dX10_tape_11 q_RX10_311 ?_
      refine z_ldc2 (pc := 14) (v := lN 4) dX10_tape_14 q_RX10_313 ?_
      refine z_callS (pc := 17) c_X10_withinT dX10_tape_17 l_RX10_68 m_MX10_within s_MX10_within rfl (by omega) rfl (Nat.le_of_ble_eq_true rfl) ?_
      rintro _ _ _ ⟨⟨rfl, hs⟩ | ⟨rfl, hs⟩, rfl, rfl⟩
      · skip
        try dsimp only [zov, Option.toList, List.cons_append, List.nil_append]
        first | refine z_if_eqN (pc := 20) (tgt := 34) (by with_reducible rfl) dX10_tape_20 (by decide) (by omega) (fun hb20 => absurd hb20 (by decide)) (fun hb20 => ?_) | refine z_if_eq (pc := 20) (tgt := 34) dX10_tape_20 (by decide) (fun hb20 => absurd hb20 (by decide)) (fun hb20 => ?_)
        · skip
          refine z_iload_n (pc := 23) dX10_tape_23 rfl rfl ?_
          refine z_iconst (pc := 24) (v := -1) dX10_tape_24 (by decide) ?_
          refine z_icmp_eq (pc := 25) (tgt := 37) dX10_tape_25 (by decide) (fun hb25 => ?_) (fun hb25 => ?_)
          · skip
            refine z_iload_n (pc := 37) dX10_tape_37 rfl rfl ?_
            refine z_iconst (pc := 38) (v := -1) dX10_tape_38 (by decide) ?_
            refine z_icmp_eq (pc := 39) (tgt := 49) dX10_tape_39 (by decide) (fun hb39 => ?_) (fun hb39 => ?_)
            · skip
              try (have h9 := nI_get2 (m := 60) (by omega) (Int32.not_lt.mpr hb43) (Int32.not_lt.mpr hb31); obtain ⟨b, rfl, hb60⟩ := h9)
              refine z_aload_n (pc := 49) dX10_tape_49 rfl rfl ?_
              refine z_getR (pc := 50) dX10_tape_50 f_RX10_52 (by assumption) rfl ?_
              refine z_iload_n (pc := 53) dX10_tape_53 rfl rfl ?_
              refine z_iload_n (pc := 54) dX10_tape_54 rfl rfl ?_
              refine z_iastore (pc := 55) dX10_tape_55 (by assumption) (by with_reducible rfl) (by omega) (by decide) ?_
              refine z_aload_n (pc := 56) dX10_tape_56 rfl rfl ?_
              refine z_getR (pc := 57) dX10_tape_57 f_RX10_55 (by assumption) rfl ?_
              refine z_iload_n (pc := 60) dX10_tape_60 rfl rfl ?_
              refine z_iload_n (pc := 61) dX10_tape_61 rfl rfl ?_
              refine z_iconst (pc := 62) (v := -1) dX10_tape_62 (by decide) ?_
              refine z_icmp_ne (pc := 63) (tgt := 70) dX10_tape_63 (by decide) (fun hb63 => ?_) (fun hb63 => ?_)
              · skip
                refine z_iload_n (pc := 70) dX10_tape_70 rfl rfl ?_
                refine z_iastore (pc := 71) dX10_tape_71 (by assumption) (by with_reducible rfl) (by omega) (by decide) ?_
                refine z_iconst (pc := 72) (v := nI 0) dX10_tape_72 (by decide) ?_
                refine z_istore (pc := 73) dX10_tape_73 (by decide) rfl ?_
                try dsimp only [zst1, zst2, zk]
                first
                | exact absurd hb39 hb25
                | exact absurd hb25 hb39
                | exact absurd hb25 hb63
                | exact absurd hb63 hb25
                | (subst hb25
                   exact l_X10_tape hM ha (by omega) (zup_s _ _ _ _) 0 0 _ (Nat.zero_add _) (fun i h => absurd h (by omega)) (fun _ _ _ => rfl) (fun J' h1 h2 => zPM_tape hV (fun x y q1 q2 => by rw [zup_n _ _ (by omega), zup_n _ _ (by omega)]) (fun x y q => h2 x y (by omega)) (vMQ_new hV.2.2.2 ha (by omega) (fun _ => rfl) (Or.inl rfl) h1 h2) (ftape_1 ha)))
                | exact l_X10_tape hM ha hb60 (zup_s _ _ _ _) b 0 _ (Nat.zero_add _) (fun i h => absurd h (by omega)) (fun _ _ _ => rfl) (fun J' h1 h2 => zPM_tape hV (fun x y q1 q2 => by rw [zup_n _ _ (by omega), zup_n _ _ (by omega)]) (fun x y q => h2 x y (by omega)) (vMQ_new hV.2.2.2 ha hb60 (fun e => absurd e hb25) hs h1 h2) (ftape_4 ha hb25 (fun q => by rcases q with q | q | q; exact zwt_p hs hb25 (Or.inl q); exact zwt_p hs hb25 (Or.inr q); exact absurd hb31 (Int32.not_le.mpr q)) hb60))
                | fail
              · skip
                refine z_iconst (pc := 66) (v := nI 0) dX10_tape_66 (by decide) ?_
                refine z_goto (pc := 67) (tgt := 71) dX10_tape_67 (by decide) ?_
                refine z_iastore (pc := 71) dX10_tape_71 (by assumption) (by with_reducible rfl) (by omega) (by decide) ?_
                refine z_iconst (pc := 72) (v := nI 0) dX10_tape_72 (by decide) ?_
                refine z_istore (pc := 73) dX10_tape_73 (by decide) rfl ?_
                try dsimp only [zst1, zst2, zk]
                first
                | exact absurd hb39 hb25
                | exact absurd hb25 hb39
                | exact absurd hb25 hb63
                | exact absurd hb63 hb25
                | (subst hb25
                   exact l_X10_tape hM ha (by omega) (zup_s _ _ _ _) 0 0 _ (Nat.zero_add _) (fun i h => absurd h (by omega)) (fun _ _ _ => rfl) (fun J' h1 h2 => zPM_tape hV (fun x y q1 q2 => by rw [zup_n _ _ (by omega), zup_n _ _ (by omega)]) (fun x y q => h2 x y (by omega)) (vMQ_new hV.2.2.2 ha (by omega) (fun _ => rfl) (Or.inl rfl) h1 h2) (ftape_1 ha)))
                | exact l_X10_tape hM ha hb60 (zup_s _ _ _ _) b 0 _ (Nat.zero_add _) (fun i h => absurd h (by omega)) (fun _ _ _ => rfl) (fun J' h1 h2 => zPM_tape hV (fun x y q1 q2 => by rw [zup_n _ _ (by omega), zup_n _ _ (by omega)]) (fun x y q => h2 x y (by omega)) (vMQ_new hV.2.2.2 ha hb60 (fun e => absurd e hb25) hs h1 h2) (ftape_4 ha hb25 (fun q => by rcases q with q | q | q; exact zwt_p hs hb25 (Or.inl q); exact zwt_p hs hb25 (Or.inr q); exact absurd hb31 (Int32.not_le.mpr q)) hb60))
                | fail
            · skip
              refine z_iload_n (pc := 42) dX10_tape_42 rfl rfl ?_
              refine z_if_ge (pc := 43) (tgt := 49) dX10_tape_43 (by decide) (fun hb43 => ?_) (fun hb43 => ?_)
              · skip
                try (have h9 := nI_get2 (m := 60) (by omega) (Int32.not_lt.mpr hb43) (Int32.not_lt.mpr hb31); obtain ⟨b, rfl, hb60⟩ := h9)
                refine z_aload_n (pc := 49) dX10_tape_49 rfl rfl ?_
                refine z_getR (pc := 50) dX10_tape_50 f_RX10_52 (by assumption) rfl ?_
                refine z_iload_n (pc := 53) dX10_tape_53 rfl rfl ?_
                refine z_iload_n (pc := 54) dX10_tape_54 rfl rfl ?_
                refine z_iastore (pc := 55) dX10_tape_55 (by assumption) (by with_reducible rfl) (by omega) (by decide) ?_
                refine z_aload_n (pc := 56) dX10_tape_56 rfl rfl ?_
                refine z_getR (pc := 57) dX10_tape_57 f_RX10_55 (by assumption) rfl ?_
                refine z_iload_n (pc := 60) dX10_tape_60 rfl rfl ?_
                refine z_iload_n (pc := 61) dX10_tape_61 rfl rfl ?_
                refine z_iconst (pc := 62) (v := -1) dX10_tape_62 (by decide) ?_
                refine z_icmp_ne (pc := 63) (tgt := 70) dX10_tape_63 (by decide) (fun hb63 => ?_) (fun hb63 => ?_)
                · skip
                  refine z_iload_n (pc := 70) dX10_tape_70 rfl rfl ?_
                  refine z_iastore (pc := 71) dX10_tape_71 (by assumption) (by with_reducible rfl) (by omega) (by decide) ?_
                  refine z_iconst (pc := 72) (v := nI 0) dX10_tape_72 (by decide) ?_
                  refine z_istore (pc := 73) dX10_tape_73 (by decide) rfl ?_
                  try dsimp only [zst1, zst2, zk]
                  first
                  | exact absurd hb39 hb25
                  | exact absurd hb25 hb39
                  | exact absurd hb25 hb63
                  | exact absurd hb63 hb25
                  | (subst hb25
                     exact l_X10_tape hM ha (by omega) (zup_s _ _ _ _) 0 0 _ (Nat.zero_add _) (fun i h => absurd h (by omega)) (fun _ _ _ => rfl) (fun J' h1 h2 => zPM_tape hV (fun x y q1 q2 => by rw [zup_n _ _ (by omega), zup_n _ _ (by omega)]) (fun x y q => h2 x y (by omega)) (vMQ_new hV.2.2.2 ha (by omega) (fun _ => rfl) (Or.inl rfl) h1 h2) (ftape_1 ha)))
                  | exact l_X10_tape hM ha hb60 (zup_s _ _ _ _) b 0 _ (Nat.zero_add _) (fun i h => absurd h (by omega)) (fun _ _ _ => rfl) (fun J' h1 h2 => zPM_tape hV (fun x y q1 q2 => by rw [zup_n _ _ (by omega), zup_n _ _ (by omega)]) (fun x y q => h2 x y (by omega)) (vMQ_new hV.2.2.2 ha hb60 (fun e => absurd e hb25) hs h1 h2) (ftape_4 ha hb25 (fun q => by rcases q with q | q | q; exact zwt_p hs hb25 (Or.inl q); exact zwt_p hs hb25 (Or.inr q); exact absurd hb31 (Int32.not_le.mpr q)) hb60))
                  | fail
                · skip
                  refine z_iconst (pc := 66) (v := nI 0) dX10_tape_66 (by decide) ?_
                  refine z_goto (pc := 67) (tgt := 71) dX10_tape_67 (by decide) ?_
                  refine z_iastore (pc := 71) dX10_tape_71 (by assumption) (by with_reducible rfl) (by omega) (by decide) ?_
                  refine z_iconst (pc := 72) (v := nI 0) dX10_tape_72 (by decide) ?_
                  refine z_istore (pc := 73) dX10_tape_73 (by decide) rfl ?_
                  try dsimp only [zst1, zst2, zk]
                  first
                  | exact absurd hb39 hb25
                  | exact absurd hb25 hb39
                  | exact absurd hb25 hb63
                  | exact absurd hb63 hb25
                  | (subst hb25
                     exact l_X10_tape hM ha (by omega) (zup_s _ _ _ _) 0 0 _ (Nat.zero_add _) (fun i h => absurd h (by omega)) (fun _ _ _ => rfl) (fun J' h1 h2 => zPM_tape hV (fun x y q1 q2 => by rw [zup_n _ _ (by omega), zup_n _ _ (by omega)]) (fun x y q => h2 x y (by omega)) (vMQ_new hV.2.2.2 ha (by omega) (fun _ => rfl) (Or.inl rfl) h1 h2) (ftape_1 ha)))
                  | exact l_X10_tape hM ha hb60 (zup_s _ _ _ _) b 0 _ (Nat.zero_add _) (fun i h => absurd h (by omega)) (fun _ _ _ => rfl) (fun J' h1 h2 => zPM_tape hV (fun x y q1 q2 => by rw [zup_n _ _ (by omega), zup_n _ _ (by omega)]) (fun x y q => h2 x y (by omega)) (vMQ_new hV.2.2.2 ha hb60 (fun e => absurd e hb25) hs h1 h2) (ftape_4 ha hb25 (fun q => by rcases q with q | q | q; exact zwt_p hs hb25 (Or.inl q); exact zwt_p hs hb25 (Or.inr q); exact absurd hb31 (Int32.not_le.mpr q)) hb60))
                  | fail
              · skip
                refine z_bipush (pc := 46) (v := -14) dX10_tape_46 (by decide) ?_
                refine z_iret (pc := 48) dX10_tape_48 rfl ?_
                first
                  | exact zPM_same hV (ftape_0 ht)
                  | exact zPM_same hV (ftape_2 ha (zwt_n hs).1 (by rcases (zwt_n hs).2 with q | q; exact Or.inl q; exact Or.inr (Or.inl q)))
                  | exact zPM_same hV (ftape_2 ha hb25 (Or.inr (Or.inr (Int32.not_le.mp hb31))))
                  | exact zPM_same hV (ftape_3 ha hb25 (fun q => by rcases q with q | q | q; exact zwt_p hs hb25 (Or.inl q); exact zwt_p hs hb25 (Or.inr q); exact absurd hb31 (Int32.not_le.mpr q)) (Int32.not_le.mp hb43))
                  | exact absurd hb25 hb39
                  | exact absurd hb39 hb25
                  | fail
          · skip
            refine z_iload_n (pc := 28) dX10_tape_28 rfl rfl ?_
            refine z_bipush (pc := 29) (v := nI 60) dX10_tape_29 (by decide) ?_
            refine z_icmp_le (pc := 31) (tgt := 37) dX10_tape_31 (by decide) (fun hb31 => ?_) (fun hb31 => ?_)
            · skip
              refine z_iload_n (pc := 37) dX10_tape_37 rfl rfl ?_
              refine z_iconst (pc := 38) (v := -1) dX10_tape_38 (by decide) ?_
              refine z_icmp_eq (pc := 39) (tgt := 49) dX10_tape_39 (by decide) (fun hb39 => ?_) (fun hb39 => ?_)
              · skip
                try (have h9 := nI_get2 (m := 60) (by omega) (Int32.not_lt.mpr hb43) (Int32.not_lt.mpr hb31); obtain ⟨b, rfl, hb60⟩ := h9)
                refine z_aload_n (pc := 49) dX10_tape_49 rfl rfl ?_
                refine z_getR (pc := 50) dX10_tape_50 f_RX10_52 (by assumption) rfl ?_
                refine z_iload_n (pc := 53) dX10_tape_53 rfl rfl ?_
                refine z_iload_n (pc := 54) dX10_tape_54 rfl rfl ?_
                refine z_iastore (pc := 55) dX10_tape_55 (by assumption) (by with_reducible rfl) (by omega) (by decide) ?_
                refine z_aload_n (pc := 56) dX10_tape_56 rfl rfl ?_
                refine z_getR (pc := 57) dX10_tape_57 f_RX10_55 (by assumption) rfl ?_
                refine z_iload_n (pc := 60) dX10_tape_60 rfl rfl ?_
                refine z_iload_n (pc := 61) dX10_tape_61 rfl rfl ?_
                refine z_iconst (pc := 62) (v := -1) dX10_tape_62 (by decide) ?_
                refine z_icmp_ne (pc := 63) (tgt := 70) dX10_tape_63 (by decide) (fun hb63 => ?_) (fun hb63 => ?_)
                · skip
                  refine z_iload_n (pc := 70) dX10_tape_70 rfl rfl ?_
                  refine z_iastore (pc := 71) dX10_tape_71 (by assumption) (by with_reducible rfl) (by omega) (by decide) ?_
                  refine z_iconst (pc := 72) (v := nI 0) dX10_tape_72 (by decide) ?_
                  refine z_istore (pc := 73) dX10_tape_73 (by decide) rfl ?_
                  try dsimp only [zst1, zst2, zk]
                  first
                  | exact absurd hb39 hb25
                  | exact absurd hb25 hb39
                  | exact absurd hb25 hb63
                  | exact absurd hb63 hb25
                  | (subst hb25
                     exact l_X10_tape hM ha (by omega) (zup_s _ _ _ _) 0 0 _ (Nat.zero_add _) (fun i h => absurd h (by omega)) (fun _ _ _ => rfl) (fun J' h1 h2 => zPM_tape hV (fun x y q1 q2 => by rw [zup_n _ _ (by omega), zup_n _ _ (by omega)]) (fun x y q => h2 x y (by omega)) (vMQ_new hV.2.2.2 ha (by omega) (fun _ => rfl) (Or.inl rfl) h1 h2) (ftape_1 ha)))
                  | exact l_X10_tape hM ha hb60 (zup_s _ _ _ _) b 0 _ (Nat.zero_add _) (fun i h => absurd h (by omega)) (fun _ _ _ => rfl) (fun J' h1 h2 => zPM_tape hV (fun x y q1 q2 => by rw [zup_n _ _ (by omega), zup_n _ _ (by omega)]) (fun x y q => h2 x y (by omega)) (vMQ_new hV.2.2.2 ha hb60 (fun e => absurd e hb25) hs h1 h2) (ftape_4 ha hb25 (fun q => by rcases q with q | q | q; exact zwt_p hs hb25 (Or.inl q); exact zwt_p hs hb25 (Or.inr q); exact absurd hb31 (Int32.not_le.mpr q)) hb60))
                  | fail
                · skip
                  refine z_iconst (pc := 66) (v := nI 0) dX10_tape_66 (by decide) ?_
                  refine z_goto (pc := 67) (tgt := 71) dX10_tape_67 (by decide) ?_
                  refine z_iastore (pc := 71) dX10_tape_71 (by assumption) (by with_reducible rfl) (by omega) (by decide) ?_
                  refine z_iconst (pc := 72) (v := nI 0) dX10_tape_72 (by decide) ?_
                  refine z_istore (pc := 73) dX10_tape_73 (by decide) rfl ?_
                  try dsimp only [zst1, zst2, zk]
                  first
                  | exact absurd hb39 hb25
                  | exact absurd hb25 hb39
                  | exact absurd hb25 hb63
                  | exact absurd hb63 hb25
                  | (subst hb25
                     exact l_X10_tape hM ha (by omega) (zup_s _ _ _ _) 0 0 _ (Nat.zero_add _) (fun i h => absurd h (by omega)) (fun _ _ _ => rfl) (fun J' h1 h2 => zPM_tape hV (fun x y q1 q2 => by rw [zup_n _ _ (by omega), zup_n _ _ (by omega)]) (fun x y q => h2 x y (by omega)) (vMQ_new hV.2.2.2 ha (by omega) (fun _ => rfl) (Or.inl rfl) h1 h2) (ftape_1 ha)))
                  | exact l_X10_tape hM ha hb60 (zup_s _ _ _ _) b 0 _ (Nat.zero_add _) (fun i h => absurd h (by omega)) (fun _ _ _ => rfl) (fun J' h1 h2 => zPM_tape hV (fun x y q1 q2 => by rw [zup_n _ _ (by omega), zup_n _ _ (by omega)]) (fun x y q => h2 x y (by omega)) (vMQ_new hV.2.2.2 ha hb60 (fun e => absurd e hb25) hs h1 h2) (ftape_4 ha hb25 (fun q => by rcases q with q | q | q; exact zwt_p hs hb25 (Or.inl q); exact zwt_p hs hb25 (Or.inr q); exact absurd hb31 (Int32.not_le.mpr q)) hb60))
                  | fail
              · skip
                refine z_iload_n (pc := 42) dX10_tape_42 rfl rfl ?_
                refine z_if_ge (pc := 43) (tgt := 49) dX10_tape_43 (by decide) (fun hb43 => ?_) (fun hb43 => ?_)
                · skip
                  try (have h9 := nI_get2 (m := 60) (by omega) (Int32.not_lt.mpr hb43) (Int32.not_lt.mpr hb31); obtain ⟨b, rfl, hb60⟩ := h9)
                  refine z_aload_n (pc := 49) dX10_tape_49 rfl rfl ?_
                  refine z_getR (pc := 50) dX10_tape_50 f_RX10_52 (by assumption) rfl ?_
                  refine z_iload_n (pc := 53) dX10_tape_53 rfl rfl ?_
                  refine z_iload_n (pc := 54) dX10_tape_54 rfl rfl ?_
                  refine z_iastore (pc := 55) dX10_tape_55 (by assumption) (by with_reducible rfl) (by omega) (by decide) ?_
                  refine z_aload_n (pc := 56) dX10_tape_56 rfl rfl ?_
                  refine z_getR (pc := 57) dX10_tape_57 f_RX10_55 (by assumption) rfl ?_
                  refine z_iload_n (pc := 60) dX10_tape_60 rfl rfl ?_
                  refine z_iload_n (pc := 61) dX10_tape_61 rfl rfl ?_
                  refine z_iconst (pc := 62) (v := -1) dX10_tape_62 (by decide) ?_
                  refine z_icmp_ne (pc := 63) (tgt := 70) dX10_tape_63 (by decide) (fun hb63 => ?_) (fun hb63 => ?_)
                  · skip
                    refine z_iload_n (pc := 70) dX10_tape_70 rfl rfl ?_
                    refine z_iastore (pc := 71) dX10_tape_71 (by assumption) (by with_reducible rfl) (by omega) (by decide) ?_
                    refine z_iconst (pc := 72) (v := nI 0) dX10_tape_72 (by decide) ?_
                    refine z_istore (pc := 73) dX10_tape_73 (by decide) rfl ?_
                    try dsimp only [zst1, zst2, zk]
                    first
                    | exact absurd hb39 hb25
                    | exact absurd hb25 hb39
                    | exact absurd hb25 hb63
                    | exact absurd hb63 hb25
                    | (subst hb25
                       exact l_X10_tape hM ha (by omega) (zup_s _ _ _ _) 0 0 _ (Nat.zero_add _) (fun i h => absurd h (by omega)) (fun _ _ _ => rfl) (fun J' h1 h2 => zPM_tape hV (fun x y q1 q2 => by rw [zup_n _ _ (by omega), zup_n _ _ (by omega)]) (fun x y q => h2 x y (by omega)) (vMQ_new hV.2.2.2 ha (by omega) (fun _ => rfl) (Or.inl rfl) h1 h2) (ftape_1 ha)))
                    | exact l_X10_tape hM ha hb60 (zup_s _ _ _ _) b 0 _ (Nat.zero_add _) (fun i h => absurd h (by omega)) (fun _ _ _ => rfl) (fun J' h1 h2 => zPM_tape hV (fun x y q1 q2 => by rw [zup_n _ _ (by omega), zup_n _ _ (by omega)]) (fun x y q => h2 x y (by omega)) (vMQ_new hV.2.2.2 ha hb60 (fun e => absurd e hb25) hs h1 h2) (ftape_4 ha hb25 (fun q => by rcases q with q | q | q; exact zwt_p hs hb25 (Or.inl q); exact zwt_p hs hb25 (Or.inr q); exact absurd hb31 (Int32.not_le.mpr q)) hb60))
                    | fail
                  · skip
                    refine z_iconst (pc := 66) (v := nI 0) dX10_tape_66 (by decide) ?_
                    refine z_goto (pc := 67) (tgt := 71) dX10_tape_67 (by decide) ?_
                    refine z_iastore (pc := 71) dX10_tape_71 (by assumption) (by with_reducible rfl) (by omega) (by decide) ?_
                    refine z_iconst (pc := 72) (v := nI 0) dX10_tape_72 (by decide) ?_
                    refine z_istore (pc := 73) dX10_tape_73 (by decide) rfl ?_
                    try dsimp only [zst1, zst2, zk]
                    first
                    | exact absurd hb39 hb25
                    | exact absurd hb25 hb39
                    | exact absurd hb25 hb63
                    | exact absurd hb63 hb25
                    | (subst hb25
                       exact l_X10_tape hM ha (by omega) (zup_s _ _ _ _) 0 0 _ (Nat.zero_add _) (fun i h => absurd h (by omega)) (fun _ _ _ => rfl) (fun J' h1 h2 => zPM_tape hV (fun x y q1 q2 => by rw [zup_n _ _ (by omega), zup_n _ _ (by omega)]) (fun x y q => h2 x y (by omega)) (vMQ_new hV.2.2.2 ha (by omega) (fun _ => rfl) (Or.inl rfl) h1 h2) (ftape_1 ha)))
                    | exact l_X10_tape hM ha hb60 (zup_s _ _ _ _) b 0 _ (Nat.zero_add _) (fun i h => absurd h (by omega)) (fun _ _ _ => rfl) (fun J' h1 h2 => zPM_tape hV (fun x y q1 q2 => by rw [zup_n _ _ (by omega), zup_n _ _ (by omega)]) (fun x y q => h2 x y (by omega)) (vMQ_new hV.2.2.2 ha hb60 (fun e => absurd e hb25) hs h1 h2) (ftape_4 ha hb25 (fun q => by rcases q with q | q | q; exact zwt_p hs hb25 (Or.inl q); exact zwt_p hs hb25 (Or.inr q); exact absurd hb31 (Int32.not_le.mpr q)) hb60))
                    | fail
                · skip
                  refine z_bipush (pc := 46) (v := -14) dX10_tape_46 (by decide) ?_
                  refine z_iret (pc := 48) dX10_tape_48 rfl ?_
                  first
                    | exact zPM_same hV (ftape_0 ht)
                    | exact zPM_same hV (ftape_2 ha (zwt_n hs).1 (by rcases (zwt_n hs).2 with q | q; exact Or.inl q; exact Or.inr (Or.inl q)))
                    | exact zPM_same hV (ftape_2 ha hb25 (Or.inr (Or.inr (Int32.not_le.mp hb31))))
                    | exact zPM_same hV (ftape_3 ha hb25 (fun q => by rcases q with q | q | q; exact zwt_p hs hb25 (Or.inl q); exact zwt_p hs hb25 (Or.inr q); exact absurd hb31 (Int32.not_le.mpr q)) (Int32.not_le.mp hb43))
                    | exact absurd hb25 hb39
                    | exact absurd hb39 hb25
                    | fail
            · skip
              refine z_bipush (pc := 34) (v := -2) dX10_tape_34 (by decide) ?_
              refine z_iret (pc := 36) dX10_tape_36 rfl ?_
              first
                | exact zPM_same hV (ftape_0 ht)
                | exact zPM_same hV (ftape_2 ha (zwt_n hs).1 (by rcases (zwt_n hs).2 with q | q; exact Or.inl q; exact Or.inr (Or.inl q)))
                | exact zPM_same hV (ftape_2 ha hb25 (Or.inr (Or.inr (Int32.not_le.mp hb31))))
                | exact zPM_same hV (ftape_3 ha hb25 (fun q => by rcases q with q | q | q; exact zwt_p hs hb25 (Or.inl q); exact zwt_p hs hb25 (Or.inr q); exact absurd hb31 (Int32.not_le.mpr q)) (Int32.not_le.mp hb43))
                | exact absurd hb25 hb39
                | exact absurd hb39 hb25
                | fail
      · skip
        try dsimp only [zov, Option.toList, List.cons_append, List.nil_append]
        first | refine z_if_eqN (pc := 20) (tgt := 34) (by with_reducible rfl) dX10_tape_20 (by decide) (by omega) (fun hb20 => ?_) (fun hb20 => absurd hb20 (by decide)) | refine z_if_eq (pc := 20) (tgt := 34) dX10_tape_20 (by decide) (fun hb20 => ?_) (fun hb20 => absurd hb20 (by decide))
        · skip
          refine z_bipush (pc := 34) (v := -2) dX10_tape_34 (by decide) ?_
          refine z_iret (pc := 36) dX10_tape_36 rfl ?_
          first
            | exact zPM_same hV (ftape_0 ht)
            | exact zPM_same hV (ftape_2 ha (zwt_n hs).1 (by rcases (zwt_n hs).2 with q | q; exact Or.inl q; exact Or.inr (Or.inl q)))
            | exact zPM_same hV (ftape_2 ha hb25 (Or.inr (Or.inr (Int32.not_le.mp hb31))))
            | exact zPM_same hV (ftape_3 ha hb25 (fun q => by rcases q with q | q | q; exact zwt_p hs hb25 (Or.inl q); exact zwt_p hs hb25 (Or.inr q); exact absurd hb31 (Int32.not_le.mpr q)) (Int32.not_le.mp hb43))
            | exact absurd hb25 hb39
            | exact absurd hb39 hb25
            | fail
  · skip
    try dsimp only [zov, Option.toList, List.cons_append, List.nil_append]
    first | refine z_if_neN (pc := 4) (tgt := 9) (by with_reducible rfl) dX10_tape_4 (by decide) (by omega) (fun hb4 => absurd hb4 (by decide)) (fun hb4 => ?_) | refine z_if_ne (pc := 4) (tgt := 9) dX10_tape_4 (by decide) (fun hb4 => absurd hb4 (by decide)) (fun hb4 => ?_)
    · skip
      refine z_iconst (pc := 7) (v := -1) dX10_tape_7 (by decide) ?_
      refine z_iret (pc := 8) dX10_tape_8 rfl ?_
      first
        | exact zPM_same hV (ftape_0 ht)
        | exact zPM_same hV (ftape_2 ha (zwt_n hs).1 (by rcases (zwt_n hs).2 with q | q; exact Or.inl q; exact Or.inr (Or.inl q)))
        | exact zPM_same hV (ftape_2 ha hb25 (Or.inr (Or.inr (Int32.not_le.mp hb31))))
        | exact zPM_same hV (ftape_3 ha hb25 (fun q => by rcases q with q | q | q; exact zwt_p hs hb25 (Or.inl q); exact zwt_p hs hb25 (Or.inr q); exact absurd hb31 (Int32.not_le.mpr q)) (Int32.not_le.mp hb43))
        | exact absurd hb25 hb39
        | exact absurd hb39 hb25
        | fail
set_option maxHeartbeats 2000000 in
set_option maxRecDepth 20000 in
theorem c_X10_asItem {lay : List zL} {I : zI} {J : zJ} {c : Nat} (hc : c ≤ 4) {v : Int64} : zMet lay MX10_asItem 0 [.int (nI c), .long v] I J (fun r I' J' => r = .long (zcut (nI c) v) ∧ I = I' ∧ J = J') := by
  refine zMet_of (t := MX10_asItem) (ls := [.int (nI c), .long v, .null]) (by decide +kernel) (Nat.le_of_ble_eq_true rfl) rfl ?_
  refine z_iload_n (pc := 0) dX10_asItem_0 rfl rfl ?_
  by_cases hsw0 : c = 0
  · subst hsw0
    refine z_tableIn (pc := 1) (off := 31) (tgt := 32) dX10_asItem_1 (by decide) (by decide) (by decide) (by decide) ?_
    refine z_lload_n (pc := 32) dX10_asItem_32 rfl rfl ?_
    first | refine z_l2iN (pc := 33) (by with_reducible rfl) dX10_asItem_33 ?_ | refine z_l2i (pc := 33) dX10_asItem_33 rfl ?_
    refine z_i2b (pc := 34) dX10_asItem_34 rfl ?_
    first | refine z_i2lN (pc := 35) (by with_reducible rfl) dX10_asItem_35 (by omega) ?_ | refine z_i2l (pc := 35) dX10_asItem_35 rfl ?_
    refine z_lret (pc := 36) dX10_asItem_36 rfl ?_
    first
      | exact ⟨rfl, rfl, rfl⟩
      | (rw [show c = 4 by omega]; exact ⟨by unfold zcut; rw [if_neg (by decide), if_neg (by decide), if_neg (by decide), if_pos rfl, if_pos hb50], rfl, rfl⟩)
      | (rw [show c = 4 by omega]; exact ⟨by unfold zcut; rw [if_neg (by decide), if_neg (by decide), if_neg (by decide), if_pos rfl, if_neg hb50], rfl, rfl⟩)
      | fail
  by_cases hsw1 : c = 1
  · subst hsw1
    refine z_tableIn (pc := 1) (off := 36) (tgt := 37) dX10_asItem_1 (by decide) (by decide) (by decide) (by decide) ?_
    refine z_lload_n (pc := 37) dX10_asItem_37 rfl rfl ?_
    first | refine z_l2iN (pc := 38) (by with_reducible rfl) dX10_asItem_38 ?_ | refine z_l2i (pc := 38) dX10_asItem_38 rfl ?_
    refine z_i2s (pc := 39) dX10_asItem_39 rfl ?_
    first | refine z_i2lN (pc := 40) (by with_reducible rfl) dX10_asItem_40 (by omega) ?_ | refine z_i2l (pc := 40) dX10_asItem_40 rfl ?_
    refine z_lret (pc := 41) dX10_asItem_41 rfl ?_
    first
      | exact ⟨rfl, rfl, rfl⟩
      | (rw [show c = 4 by omega]; exact ⟨by unfold zcut; rw [if_neg (by decide), if_neg (by decide), if_neg (by decide), if_pos rfl, if_pos hb50], rfl, rfl⟩)
      | (rw [show c = 4 by omega]; exact ⟨by unfold zcut; rw [if_neg (by decide), if_neg (by decide), if_neg (by decide), if_pos rfl, if_neg hb50], rfl, rfl⟩)
      | fail
  by_cases hsw2 : c = 2
  · subst hsw2
    refine z_tableIn (pc := 1) (off := 41) (tgt := 42) dX10_asItem_1 (by decide) (by decide) (by decide) (by decide) ?_
    refine z_lload_n (pc := 42) dX10_asItem_42 rfl rfl ?_
    first | refine z_l2iN (pc := 43) (by with_reducible rfl) dX10_asItem_43 ?_ | refine z_l2i (pc := 43) dX10_asItem_43 rfl ?_
    first | refine z_i2lN (pc := 44) (by with_reducible rfl) dX10_asItem_44 (by omega) ?_ | refine z_i2l (pc := 44) dX10_asItem_44 rfl ?_
    refine z_lret (pc := 45) dX10_asItem_45 rfl ?_
    first
      | exact ⟨rfl, rfl, rfl⟩
      | (rw [show c = 4 by omega]; exact ⟨by unfold zcut; rw [if_neg (by decide), if_neg (by decide), if_neg (by decide), if_pos rfl, if_pos hb50], rfl, rfl⟩)
      | (rw [show c = 4 by omega]; exact ⟨by unfold zcut; rw [if_neg (by decide), if_neg (by decide), if_neg (by decide), if_pos rfl, if_neg hb50], rfl, rfl⟩)
      | fail
  by_cases hsw3 : c = 3
  · subst hsw3
    refine z_tableIn (pc := 1) (off := 45) (tgt := 46) dX10_asItem_1 (by decide) (by decide) (by decide) (by decide) ?_
    refine z_lload_n (pc := 46) dX10_asItem_46 rfl rfl ?_
    refine z_lret (pc := 47) dX10_asItem_47 rfl ?_
    first
      | exact ⟨rfl, rfl, rfl⟩
      | (rw [show c = 4 by omega]; exact ⟨by unfold zcut; rw [if_neg (by decide), if_neg (by decide), if_neg (by decide), if_pos rfl, if_pos hb50], rfl, rfl⟩)
      | (rw [show c = 4 by omega]; exact ⟨by unfold zcut; rw [if_neg (by decide), if_neg (by decide), if_neg (by decide), if_pos rfl, if_neg hb50], rfl, rfl⟩)
      | fail
  · skip
    refine z_tableOut (pc := 1) (tgt := 48) dX10_asItem_1 (by have e9 := nI_toInt (n := c) (by omega); omega) (by decide) ?_
    refine z_lload_n (pc := 48) dX10_asItem_48 rfl rfl ?_
    refine z_lconst (pc := 49) (v := lN 0) dX10_asItem_49 rfl ?_
    refine z_lc_ne (pc := 50) (tgt := 58) dX10_asItem_50 rfl dX10_asItem_51 (by decide) (fun hb50 => ?_) (fun hb50 => ?_)
    · skip
      refine z_lconst (pc := 58) (v := lN 1) dX10_asItem_58 rfl ?_
      refine z_lret (pc := 59) dX10_asItem_59 rfl ?_
      first
        | exact ⟨rfl, rfl, rfl⟩
        | (rw [show c = 4 by omega]; exact ⟨by unfold zcut; rw [if_neg (by decide), if_neg (by decide), if_neg (by decide), if_pos rfl, if_pos hb50], rfl, rfl⟩)
        | (rw [show c = 4 by omega]; exact ⟨by unfold zcut; rw [if_neg (by decide), if_neg (by decide), if_neg (by decide), if_pos rfl, if_neg hb50], rfl, rfl⟩)
        | fail
    · skip
      refine z_lconst (pc := 54) (v := lN 0) dX10_asItem_54 rfl ?_
      refine z_goto (pc := 55) (tgt := 59) dX10_asItem_55 (by decide) ?_
      refine z_lret (pc := 59) dX10_asItem_59 rfl ?_
      first
        | exact ⟨rfl, rfl, rfl⟩
        | (rw [show c = 4 by omega]; exact ⟨by unfold zcut; rw [if_neg (by decide), if_neg (by decide), if_neg (by decide), if_pos rfl, if_pos hb50], rfl, rfl⟩)
        | (rw [show c = 4 by omega]; exact ⟨by unfold zcut; rw [if_neg (by decide), if_neg (by decide), if_neg (by decide), if_pos rfl, if_neg hb50], rfl, rfl⟩)
        | fail
set_option maxHeartbeats 2000000 in
set_option maxRecDepth 20000 in
theorem c_X10_hasItem {lay : List zL} {I : zI} {J : zJ} {S : zS} (hM : kM lay) (hV : vM I J S) {a : Nat} (ha : a < 6) {i : Int32} : zMet lay MX10_hasItem 1 [.ref 79, .int (nI a), .int i] I J (fun r I' J' => ((r = .int (nI 1) ∧ ∃ k, i = nI k ∧ k < S.le a) ∨ (r = .int (nI 0) ∧ ¬ ∃ k, i = nI k ∧ k < S.le a)) ∧ I = I' ∧ J = J') := by
  refine zMet_of (t := MX10_hasItem) (ls := [.ref 79, .int (nI a), .int i]) (by decide +kernel) (Nat.le_of_ble_eq_true rfl) rfl ?_
  obtain ⟨mo, m80, m81, m82, m83, m84, m85, m86, m87, m88, m89, m90, m91, m92, m93, m94, m95, m96⟩ := id hM
  obtain ⟨v0, v1, v2, v3⟩ := id hV.2.2.2
  have hva := v3 a ha
  have hv0 := v0 a ha
  have hv1 := v1 a ha
  refine z_aload_n (pc := 0) dX10_hasItem_0 rfl rfl ?_
  refine z_getR (pc := 1) dX10_hasItem_1 f_RX10_52 (by assumption) rfl ?_
  refine z_iload_n (pc := 4) dX10_hasItem_4 rfl rfl ?_
  refine z_ialoadv (pc := 5) dX10_hasItem_5 (by assumption) (by with_reducible rfl) (by omega) (by decide) (by first | assumption | rfl) ?_
  refine z_iconst (pc := 6) (v := -1) dX10_hasItem_6 (by decide) ?_
  refine z_icmp_eq (pc := 7) (tgt := 32) dX10_hasItem_7 (by decide) (fun hb7 => ?_) (fun hb7 => ?_)
  · skip
    refine z_iconst (pc := 32) (v := nI 0) dX10_hasItem_32 (by decide) ?_
    refine z_zret (pc := 33) dX10_hasItem_33 rfl (by first | decide | assumption) ?_
    first
      | exact ⟨Or.inl ⟨rfl, hc⟩, rfl, rfl⟩
      | exact ⟨Or.inr ⟨rfl, hc⟩, rfl, rfl⟩
      | exact ⟨Or.inr ⟨rfl, fun ⟨k, e, h⟩ => by rw [hva.2.1 hb7] at h; exact absurd h (Nat.not_lt_zero _)⟩, rfl, rfl⟩
      | fail
  · skip
    refine z_iload_n (pc := 10) dX10_hasItem_10 rfl rfl ?_
    first | refine z_i2lN (pc := 11) (by with_reducible rfl) dX10_hasItem_11 (by omega) ?_ | refine z_i2l (pc := 11) dX10_hasItem_11 rfl ?_
    refine z_lconst (pc := 12) (v := lN 0) dX10_hasItem_12 rfl ?_
    refine z_aload_n (pc := 13) dX10_hasItem_13 rfl rfl ?_
    refine z_getR (pc := 14) dX10_hasItem_14 f_RX10_55 (by assumption) rfl ?_
    refine z_iload_n (pc := 17) dX10_hasItem_17 rfl rfl ?_
    refine z_ialoadv (pc := 18) dX10_hasItem_18 (by assumption) (by with_reducible rfl) (by omega) (by decide) (by first | assumption | rfl) ?_
    refine z_iconst (pc := 19) (v := nI 1) dX10_hasItem_19 (by decide) ?_
    first | refine z_isubN (pc := 20) (by with_reducible rfl) (by with_reducible rfl) dX10_hasItem_20 (by omega) ?_ | refine z_isub (pc := 20) dX10_hasItem_20 ?_
    first | refine z_i2lN (pc := 21) (by with_reducible rfl) dX10_hasItem_21 (by omega) ?_ | refine z_i2l (pc := 21) dX10_hasItem_21 rfl ?_
    refine z_callS (pc := 22) (c_X10_withinM (m := S.le a) (by omega)) dX10_hasItem_22 l_RX10_68 m_MX10_within s_MX10_within rfl (by omega) rfl (Nat.le_of_ble_eq_true rfl) ?_
    rintro _ _ _ ⟨⟨rfl, hc⟩ | ⟨rfl, hc⟩, rfl, rfl⟩
    · skip
      try dsimp only [zov, Option.toList, List.cons_append, List.nil_append]
      first | refine z_if_eqN (pc := 25) (tgt := 32) (by with_reducible rfl) dX10_hasItem_25 (by decide) (by omega) (fun hb25 => absurd hb25 (by decide)) (fun hb25 => ?_) | refine z_if_eq (pc := 25) (tgt := 32) dX10_hasItem_25 (by decide) (fun hb25 => absurd hb25 (by decide)) (fun hb25 => ?_)
      · skip
        refine z_iconst (pc := 28) (v := nI 1) dX10_hasItem_28 (by decide) ?_
        refine z_goto (pc := 29) (tgt := 33) dX10_hasItem_29 (by decide) ?_
        refine z_zret (pc := 33) dX10_hasItem_33 rfl (by first | decide | assumption) ?_
        first
          | exact ⟨Or.inl ⟨rfl, hc⟩, rfl, rfl⟩
          | exact ⟨Or.inr ⟨rfl, hc⟩, rfl, rfl⟩
          | exact ⟨Or.inr ⟨rfl, fun ⟨k, e, h⟩ => by rw [hva.2.1 hb7] at h; exact absurd h (Nat.not_lt_zero _)⟩, rfl, rfl⟩
          | fail
    · skip
      try dsimp only [zov, Option.toList, List.cons_append, List.nil_append]
      first | refine z_if_eqN (pc := 25) (tgt := 32) (by with_reducible rfl) dX10_hasItem_25 (by decide) (by omega) (fun hb25 => ?_) (fun hb25 => absurd hb25 (by decide)) | refine z_if_eq (pc := 25) (tgt := 32) dX10_hasItem_25 (by decide) (fun hb25 => ?_) (fun hb25 => absurd hb25 (by decide))
      · skip
        refine z_iconst (pc := 32) (v := nI 0) dX10_hasItem_32 (by decide) ?_
        refine z_zret (pc := 33) dX10_hasItem_33 rfl (by first | decide | assumption) ?_
        first
          | exact ⟨Or.inl ⟨rfl, hc⟩, rfl, rfl⟩
          | exact ⟨Or.inr ⟨rfl, hc⟩, rfl, rfl⟩
          | exact ⟨Or.inr ⟨rfl, fun ⟨k, e, h⟩ => by rw [hva.2.1 hb7] at h; exact absurd h (Nat.not_lt_zero _)⟩, rfl, rfl⟩
          | fail
set_option maxHeartbeats 2000000 in
set_option maxRecDepth 20000 in
theorem c_X10_item {lay : List zL} {I : zI} {J : zJ} {S : zS} (hM : kM lay) (hV : vM I J S) {t i : Int32} {v : Int64} : zMet lay MX10_item 2 [.ref 79, .int t, .int i, .long v] I J (fun r I' J' => zPM I J (fitem S t i v) r I' J') := by
  refine zMet_of (t := MX10_item) (ls := [.ref 79, .int t, .int i, .long v, .null]) (by decide +kernel) (Nat.le_of_ble_eq_true rfl) rfl ?_
  obtain ⟨mo, m80, m81, m82, m83, m84, m85, m86, m87, m88, m89, m90, m91, m92, m93, m94, m95, m96⟩ := id hM
  obtain ⟨v0, v1, v2, v3⟩ := id hV.2.2.2
  refine z_iload_n (pc := 0) dX10_item_0 rfl rfl ?_
  refine z_callS (pc := 1) c_X10_isTape dX10_item_1 l_RX10_308 m_MX10_isTape s_MX10_isTape rfl (by omega) rfl (Nat.le_of_ble_eq_true rfl) ?_
  rintro _ _ _ ⟨⟨rfl, ht⟩ | ⟨rfl, ht⟩, rfl, rfl⟩
  · obtain ⟨a, rfl, ha⟩ := ht; have hva := v3 a ha; have hv0 := v0 a ha; have hv1 := v1 a ha
    try dsimp only [zov, Option.toList, List.cons_append, List.nil_append]
    first | refine z_if_neN (pc := 4) (tgt := 9) (by with_reducible rfl) dX10_item_4 (by decide) (by omega) (fun hb4 => ?_) (fun hb4 => absurd hb4 (by decide)) | refine z_if_ne (pc := 4) (tgt := 9) dX10_item_4 (by decide) (fun hb4 => ?_) (fun hb4 => absurd hb4 (by decide))
    · skip
      refine z_aload_n (pc := 9) dX10_item_9 rfl rfl ?_
      refine z_getR (pc := 10) dX10_item_10 f_RX10_52 (by assumption) rfl ?_
      refine z_iload_n (pc := 13) dX10_item_13 rfl rfl ?_
      refine z_ialoadv (pc := 14) dX10_item_14 (by assumption) (by with_reducible rfl) (by omega) (by decide) (by first | assumption | rfl) ?_
      refine z_iconst (pc := 15) (v := -1) dX10_item_15 (by decide) ?_
      refine z_icmp_ne (pc := 16) (tgt := 22) dX10_item_16 (by decide) (fun hb16 => ?_) (fun hb16 => ?_)
      · skip
        refine z_aload_n (pc := 22) dX10_item_22 rfl rfl ?_
        refine z_iload_n (pc := 23) dX10_item_23 rfl rfl ?_
        refine z_iload_n (pc := 24) dX10_item_24 rfl rfl ?_
        refine z_callV (pc := 25) (c_X10_hasItem hM hV ha) dX10_item_25 l_RX10_315 m_MX10_hasItem n_MX10_hasItem e_MX10_hasItem rfl (by omega) (by assumption) rfl rfl (Nat.le_of_ble_eq_true rfl) ?_
        rintro _ _ _ ⟨⟨rfl, hi⟩ | ⟨rfl, hi⟩, rfl, rfl⟩
        · obtain ⟨b, rfl, hb9⟩ := hi
          try dsimp only [zov, Option.toList, List.cons_append, List.nil_append]
          first | refine z_if_neN (pc := 28) (tgt := 34) (by with_reducible rfl) dX10_item_28 (by decide) (by omega) (fun hb28 => ?_) (fun hb28 => absurd hb28 (by decide)) | refine z_if_ne (pc := 28) (tgt := 34) dX10_item_28 (by decide) (fun hb28 => ?_) (fun hb28 => absurd hb28 (by decide))
          · skip
            refine z_aload_n (pc := 34) dX10_item_34 rfl rfl ?_
            refine z_getR (pc := 35) dX10_item_35 f_RX10_58 (by assumption) rfl ?_
            refine z_bipush (pc := 38) (v := nI 60) dX10_item_38 (by decide) ?_
            refine z_iload_n (pc := 40) dX10_item_40 rfl rfl ?_
            first | refine z_imulN (pc := 41) (by with_reducible rfl) (by with_reducible rfl) dX10_item_41 ?_ | refine z_imul (pc := 41) dX10_item_41 ?_
            refine z_iload_n (pc := 42) dX10_item_42 rfl rfl ?_
            first | refine z_iaddN (pc := 43) (by with_reducible rfl) (by with_reducible rfl) dX10_item_43 ?_ | refine z_iadd (pc := 43) dX10_item_43 ?_
            obtain ⟨c, hc4, hsc⟩ := hva.2.2.resolve_left hb16
            rw [hsc] at hv0
            refine z_aload_n (pc := 44) dX10_item_44 rfl rfl ?_
            refine z_getR (pc := 45) dX10_item_45 f_RX10_52 (by assumption) rfl ?_
            refine z_iload_n (pc := 48) dX10_item_48 rfl rfl ?_
            refine z_ialoadv (pc := 49) dX10_item_49 (by assumption) (by with_reducible rfl) (by omega) (by decide) (by first | assumption | rfl) ?_
            refine z_lload_n (pc := 50) dX10_item_50 rfl rfl ?_
            refine z_callS (pc := 51) (c_X10_asItem hc4) dX10_item_51 l_RX10_318 m_MX10_asItem s_MX10_asItem rfl (by omega) rfl (Nat.le_of_ble_eq_true rfl) ?_
            rintro _ _ _ (⟨rfl, rfl, rfl⟩)
            try dsimp only [zov, Option.toList, List.cons_append, List.nil_append]
            refine z_lastore (pc := 54) dX10_item_54 (by assumption) (by with_reducible rfl) (by omega) (by decide) ?_
            refine z_iconst (pc := 55) (v := nI 1) dX10_item_55 (by decide) ?_
            refine z_iret (pc := 56) dX10_item_56 rfl ?_
            first
              | exact zPM_same hV (fitem_0 ht)
              | exact zPM_same hV (fitem_1 ha hb16)
              | exact zPM_same hV (fitem_2 ha hb16 hi)
              | exact zPM_tape hV (fun _ _ _ _ => rfl) (fun x y q => zup_n _ _ (by omega)) (vMQ_put hV.2.2.2 ha hb9) (by rw [← hsc]; exact fitem_3 ha hb16 hva.1 hb9)
              | fail
        · skip
          try dsimp only [zov, Option.toList, List.cons_append, List.nil_append]
          first | refine z_if_neN (pc := 28) (tgt := 34) (by with_reducible rfl) dX10_item_28 (by decide) (by omega) (fun hb28 => absurd hb28 (by decide)) (fun hb28 => ?_) | refine z_if_ne (pc := 28) (tgt := 34) dX10_item_28 (by decide) (fun hb28 => absurd hb28 (by decide)) (fun hb28 => ?_)
          · skip
            refine z_bipush (pc := 31) (v := -13) dX10_item_31 (by decide) ?_
            refine z_iret (pc := 33) dX10_item_33 rfl ?_
            first
              | exact zPM_same hV (fitem_0 ht)
              | exact zPM_same hV (fitem_1 ha hb16)
              | exact zPM_same hV (fitem_2 ha hb16 hi)
              | exact zPM_tape hV (fun _ _ _ _ => rfl) (fun x y q => zup_n _ _ (by omega)) (vMQ_put hV.2.2.2 ha hb9) (by rw [← hsc]; exact fitem_3 ha hb16 hva.1 hb9)
              | fail
      · skip
        refine z_bipush (pc := 19) (v := -11) dX10_item_19 (by decide) ?_
        refine z_iret (pc := 21) dX10_item_21 rfl ?_
        first
          | exact zPM_same hV (fitem_0 ht)
          | exact zPM_same hV (fitem_1 ha hb16)
          | exact zPM_same hV (fitem_2 ha hb16 hi)
          | exact zPM_tape hV (fun _ _ _ _ => rfl) (fun x y q => zup_n _ _ (by omega)) (vMQ_put hV.2.2.2 ha hb9) (by rw [← hsc]; exact fitem_3 ha hb16 hva.1 hb9)
          | fail
  · skip
    try dsimp only [zov, Option.toList, List.cons_append, List.nil_append]
    first | refine z_if_neN (pc := 4) (tgt := 9) (by with_reducible rfl) dX10_item_4 (by decide) (by omega) (fun hb4 => absurd hb4 (by decide)) (fun hb4 => ?_) | refine z_if_ne (pc := 4) (tgt := 9) dX10_item_4 (by decide) (fun hb4 => absurd hb4 (by decide)) (fun hb4 => ?_)
    · skip
      refine z_iconst (pc := 7) (v := -1) dX10_item_7 (by decide) ?_
      refine z_iret (pc := 8) dX10_item_8 rfl ?_
      first
        | exact zPM_same hV (fitem_0 ht)
        | exact zPM_same hV (fitem_1 ha hb16)
        | exact zPM_same hV (fitem_2 ha hb16 hi)
        | exact zPM_tape hV (fun _ _ _ _ => rfl) (fun x y q => zup_n _ _ (by omega)) (vMQ_put hV.2.2.2 ha hb9) (by rw [← hsc]; exact fitem_3 ha hb16 hva.1 hb9)
        | fail
set_option maxHeartbeats 2000000 in
set_option maxRecDepth 20000 in
theorem c_X10_peek {lay : List zL} {I : zI} {J : zJ} {S : zS} (hM : kM lay) (hV : vM I J S) {t i : Int32} : zMet lay MX10_peek 2 [.ref 79, .int t, .int i] I J (fun r I' J' => zPM I J (fpeek S t i) r I' J') := by
  refine zMet_of (t := MX10_peek) (ls := [.ref 79, .int t, .int i]) (by decide +kernel) (Nat.le_of_ble_eq_true rfl) rfl ?_
  obtain ⟨mo, m80, m81, m82, m83, m84, m85, m86, m87, m88, m89, m90, m91, m92, m93, m94, m95, m96⟩ := id hM
  obtain ⟨v0, v1, v2, v3⟩ := id hV.2.2.2
  refine z_iload_n (pc := 0) dX10_peek_0 rfl rfl ?_
  refine z_callS (pc := 1) c_X10_isTape dX10_peek_1 l_RX10_308 m_MX10_isTape s_MX10_isTape rfl (by omega) rfl (Nat.le_of_ble_eq_true rfl) ?_
  rintro _ _ _ ⟨⟨rfl, ht⟩ | ⟨rfl, ht⟩, rfl, rfl⟩
  · obtain ⟨a, rfl, ha⟩ := ht; have hva := v3 a ha; have hv0 := v0 a ha; have hv1 := v1 a ha
    try dsimp only [zov, Option.toList, List.cons_append, List.nil_append]
    first | refine z_if_eqN (pc := 4) (tgt := 30) (by with_reducible rfl) dX10_peek_4 (by decide) (by omega) (fun hb4 => absurd hb4 (by decide)) (fun hb4 => ?_) | refine z_if_eq (pc := 4) (tgt := 30) dX10_peek_4 (by decide) (fun hb4 => absurd hb4 (by decide)) (fun hb4 => ?_)
    · skip
      refine z_aload_n (pc := 7) dX10_peek_7 rfl rfl ?_
      refine z_iload_n (pc := 8) dX10_peek_8 rfl rfl ?_
      refine z_iload_n (pc := 9) dX10_peek_9 rfl rfl ?_
      refine z_callV (pc := 10) (c_X10_hasItem hM hV ha) dX10_peek_10 l_RX10_315 m_MX10_hasItem n_MX10_hasItem e_MX10_hasItem rfl (by omega) (by assumption) rfl rfl (Nat.le_of_ble_eq_true rfl) ?_
      rintro _ _ _ ⟨⟨rfl, hi⟩ | ⟨rfl, hi⟩, rfl, rfl⟩
      · obtain ⟨b, rfl, hb9⟩ := hi
        try dsimp only [zov, Option.toList, List.cons_append, List.nil_append]
        first | refine z_if_eqN (pc := 13) (tgt := 30) (by with_reducible rfl) dX10_peek_13 (by decide) (by omega) (fun hb13 => absurd hb13 (by decide)) (fun hb13 => ?_) | refine z_if_eq (pc := 13) (tgt := 30) dX10_peek_13 (by decide) (fun hb13 => absurd hb13 (by decide)) (fun hb13 => ?_)
        · skip
          refine z_aload_n (pc := 16) dX10_peek_16 rfl rfl ?_
          refine z_getR (pc := 17) dX10_peek_17 f_RX10_58 (by assumption) rfl ?_
          refine z_bipush (pc := 20) (v := nI 60) dX10_peek_20 (by decide) ?_
          refine z_iload_n (pc := 22) dX10_peek_22 rfl rfl ?_
          first | refine z_imulN (pc := 23) (by with_reducible rfl) (by with_reducible rfl) dX10_peek_23 ?_ | refine z_imul (pc := 23) dX10_peek_23 ?_
          refine z_iload_n (pc := 24) dX10_peek_24 rfl rfl ?_
          first | refine z_iaddN (pc := 25) (by with_reducible rfl) (by with_reducible rfl) dX10_peek_25 ?_ | refine z_iadd (pc := 25) dX10_peek_25 ?_
          refine z_laloadv (pc := 26) dX10_peek_26 (by assumption) (by with_reducible rfl) (by omega) (by decide) (by first | assumption | exact v2 a b ha hb9 | rfl) ?_
          refine z_goto (pc := 27) (tgt := 33) dX10_peek_27 (by decide) ?_
          refine z_lret (pc := 33) dX10_peek_33 rfl ?_
          first
            | exact zPM_same hV (fpeek_0 ht)
            | exact zPM_same hV (fpeek_1 ha hi)
            | exact zPM_same hV (fpeek_2 ha hva.1 hb9)
            | fail
      · skip
        try dsimp only [zov, Option.toList, List.cons_append, List.nil_append]
        first | refine z_if_eqN (pc := 13) (tgt := 30) (by with_reducible rfl) dX10_peek_13 (by decide) (by omega) (fun hb13 => ?_) (fun hb13 => absurd hb13 (by decide)) | refine z_if_eq (pc := 13) (tgt := 30) dX10_peek_13 (by decide) (fun hb13 => ?_) (fun hb13 => absurd hb13 (by decide))
        · skip
          refine z_ldc2 (pc := 30) (v := -9223372036854775808) dX10_peek_30 q_RX10_190 ?_
          refine z_lret (pc := 33) dX10_peek_33 rfl ?_
          first
            | exact zPM_same hV (fpeek_0 ht)
            | exact zPM_same hV (fpeek_1 ha hi)
            | exact zPM_same hV (fpeek_2 ha hva.1 hb9)
            | fail
  · skip
    try dsimp only [zov, Option.toList, List.cons_append, List.nil_append]
    first | refine z_if_eqN (pc := 4) (tgt := 30) (by with_reducible rfl) dX10_peek_4 (by decide) (by omega) (fun hb4 => ?_) (fun hb4 => absurd hb4 (by decide)) | refine z_if_eq (pc := 4) (tgt := 30) dX10_peek_4 (by decide) (fun hb4 => ?_) (fun hb4 => absurd hb4 (by decide))
    · skip
      refine z_ldc2 (pc := 30) (v := -9223372036854775808) dX10_peek_30 q_RX10_190 ?_
      refine z_lret (pc := 33) dX10_peek_33 rfl ?_
      first
        | exact zPM_same hV (fpeek_0 ht)
        | exact zPM_same hV (fpeek_1 ha hi)
        | exact zPM_same hV (fpeek_2 ha hva.1 hb9)
        | fail
set_option maxHeartbeats 2000000 in
set_option maxRecDepth 20000 in
theorem l1_X10_shift {lay : List zL} {Q : Value → zI → zJ → Prop} {d a b x y n : Nat} {I : zI} {J0 : zJ} (hM : kM lay) (hn : n ≤ 60) (hx : 60 * a + x + n ≤ 360) (K : ∀ J, (∀ i, i < n → J 96 i = J0 95 (60 * a + x + i)) → (∀ p y, p ≠ 96 → J p y = J0 p y) → Z lay MX10_shift d 138 [.ref 79, .int (nI a), .int (nI x), .int (nI b), .int (nI y), .int (nI n), .int (nI n)] [] I J Q) : ∀ (m k : Nat) (J : zJ), k + m = n → (∀ i, i < k → J 96 i = J0 95 (60 * a + x + i)) → (∀ p y, p ≠ 96 → J p y = J0 p y) → Z lay MX10_shift d 104 [.ref 79, .int (nI a), .int (nI x), .int (nI b), .int (nI y), .int (nI n), .int (nI k)] [] I J Q := by
  intro m
  induction m with
  | zero =>
    intro k J hk h1 h2
    obtain rfl : k = n := (by omega)
    obtain ⟨mo, m80, m81, m82, m83, m84, m85, m86, m87, m88, m89, m90, m91, m92, m93, m94, m95, m96⟩ := id hM
    refine z_iload (pc := 104) dX10_shift_104 rfl ?_
    refine z_iload (pc := 106) dX10_shift_106 rfl ?_
    first | refine z_icmp_geN (pc := 108) (tgt := 138) (by with_reducible rfl) (by with_reducible rfl) dX10_shift_108 (by decide) (by omega) (by omega) (fun hb108 => ?_) (fun hb108 => absurd hb108 (by omega)) | refine z_icmp_ge (pc := 108) (tgt := 138) dX10_shift_108 (by decide) (fun hb108 => ?_) (fun hb108 => absurd hb108 (by omega))
    · skip
      exact K J h1 h2
  | succ m ih =>
    intro k J hk h1 h2
    obtain ⟨mo, m80, m81, m82, m83, m84, m85, m86, m87, m88, m89, m90, m91, m92, m93, m94, m95, m96⟩ := id hM
    refine z_iload (pc := 104) dX10_shift_104 rfl ?_
    refine z_iload (pc := 106) dX10_shift_106 rfl ?_
    first | refine z_icmp_geN (pc := 108) (tgt := 138) (by with_reducible rfl) (by with_reducible rfl) dX10_shift_108 (by decide) (by omega) (by omega) (fun hb108 => absurd hb108 (by omega)) (fun hb108 => ?_) | refine z_icmp_ge (pc := 108) (tgt := 138) dX10_shift_108 (by decide) (fun hb108 => absurd hb108 (by omega)) (fun hb108 => ?_)
    · skip
      refine z_aload_n (pc := 111) dX10_shift_111 rfl rfl ?_
      refine z_getR (pc := 112) dX10_shift_112 f_RX10_61 (by assumption) rfl ?_
      refine z_iload (pc := 115) dX10_shift_115 rfl ?_
      refine z_aload_n (pc := 117) dX10_shift_117 rfl rfl ?_
      refine z_getR (pc := 118) dX10_shift_118 f_RX10_58 (by assumption) rfl ?_
      refine z_bipush (pc := 121) (v := nI 60) dX10_shift_121 (by decide) ?_
      refine z_iload_n (pc := 123) dX10_shift_123 rfl rfl ?_
      first | refine z_imulN (pc := 124) (by with_reducible rfl) (by with_reducible rfl) dX10_shift_124 ?_ | refine z_imul (pc := 124) dX10_shift_124 ?_
      refine z_iload_n (pc := 125) dX10_shift_125 rfl rfl ?_
      first | refine z_iaddN (pc := 126) (by with_reducible rfl) (by with_reducible rfl) dX10_shift_126 ?_ | refine z_iadd (pc := 126) dX10_shift_126 ?_
      refine z_iload (pc := 127) dX10_shift_127 rfl ?_
      first | refine z_iaddN (pc := 129) (by with_reducible rfl) (by with_reducible rfl) dX10_shift_129 ?_ | refine z_iadd (pc := 129) dX10_shift_129 ?_
      refine z_laloadv (pc := 130) dX10_shift_130 (by assumption) (by with_reducible rfl) (by omega) (by decide) (by first | assumption | exact h2 95 _ (by decide) | rfl) ?_
      refine z_lastore (pc := 131) dX10_shift_131 (by assumption) (by with_reducible rfl) (by omega) (by decide) ?_
      first | refine z_iincN (pc := 132) (c := 1) dX10_shift_132 rfl (by with_reducible rfl) (by decide) (by decide) rfl ?_ | refine z_iinc (pc := 132) dX10_shift_132 rfl rfl (by decide) rfl ?_
      try dsimp only [zst1, zst2, zk]
      refine z_goto (pc := 135) (tgt := 104) dX10_shift_135 (by decide) ?_
      refine ih (k + 1) _ (by omega) (fun i hi => ?_) (fun p y h => (zup_n _ _ (by omega)).trans (h2 p y h))
      by_cases e : i = k
      · rw [e]; exact zup_s _ _ _ _
      · rw [zup_n _ _ (by omega)]; exact h1 i (by omega)
set_option maxHeartbeats 2000000 in
set_option maxRecDepth 20000 in
theorem l2_X10_shift {lay : List zL} {Q : Value → zI → zJ → Prop} {d a b x y n : Nat} {I : zI} {J0 : zJ} {c : Nat → Int64} (hM : kM lay) (hn : n ≤ 60) (hx : 60 * b + y + n ≤ 360) : ∀ (m k : Nat) (J : zJ), k + m = n → (∀ i, i < n → J 96 i = c i) → (∀ i, i < k → J 95 (60 * b + y + i) = c i) → (∀ p z, p ≠ 96 → ¬ (p = 95 ∧ 60 * b + y ≤ z ∧ z < 60 * b + y + k) → J p z = J0 p z) → (∀ J', (∀ i, i < n → J' 95 (60 * b + y + i) = c i) → (∀ p z, p ≠ 96 → ¬ (p = 95 ∧ 60 * b + y ≤ z ∧ z < 60 * b + y + n) → J' p z = J0 p z) → Q (.int (nI n)) I J') → Z lay MX10_shift d 141 [.ref 79, .int (nI a), .int (nI x), .int (nI b), .int (nI y), .int (nI n), .int (nI k)] [] I J Q := by
  intro m
  induction m with
  | zero =>
    intro k J hk h0 h1 h2 hq
    obtain rfl : k = n := (by omega)
    obtain ⟨mo, m80, m81, m82, m83, m84, m85, m86, m87, m88, m89, m90, m91, m92, m93, m94, m95, m96⟩ := id hM
    refine z_iload (pc := 141) dX10_shift_141 rfl ?_
    refine z_iload (pc := 143) dX10_shift_143 rfl ?_
    first | refine z_icmp_geN (pc := 145) (tgt := 176) (by with_reducible rfl) (by with_reducible rfl) dX10_shift_145 (by decide) (by omega) (by omega) (fun hb145 => ?_) (fun hb145 => absurd hb145 (by omega)) | refine z_icmp_ge (pc := 145) (tgt := 176) dX10_shift_145 (by decide) (fun hb145 => ?_) (fun hb145 => absurd hb145 (by omega))
    · skip
      refine z_iload (pc := 176) dX10_shift_176 rfl ?_
      refine z_iret (pc := 178) dX10_shift_178 rfl ?_
      exact hq J h1 h2
  | succ m ih =>
    intro k J hk h0 h1 h2 hq
    obtain ⟨mo, m80, m81, m82, m83, m84, m85, m86, m87, m88, m89, m90, m91, m92, m93, m94, m95, m96⟩ := id hM
    refine z_iload (pc := 141) dX10_shift_141 rfl ?_
    refine z_iload (pc := 143) dX10_shift_143 rfl ?_
    first | refine z_icmp_geN (pc := 145) (tgt := 176) (by with_reducible rfl) (by with_reducible rfl) dX10_shift_145 (by decide) (by omega) (by omega) (fun hb145 => absurd hb145 (by omega)) (fun hb145 => ?_) | refine z_icmp_ge (pc := 145) (tgt := 176) dX10_shift_145 (by decide) (fun hb145 => absurd hb145 (by omega)) (fun hb145 => ?_)
    · skip
      refine z_aload_n (pc := 148) dX10_shift_148 rfl rfl ?_
      refine z_getR (pc := 149) dX10_shift_149 f_RX10_58 (by assumption) rfl ?_
      refine z_bipush (pc := 152) (v := nI 60) dX10_shift_152 (by decide) ?_
      refine z_iload_n (pc := 154) dX10_shift_154 rfl rfl ?_
      first | refine z_imulN (pc := 155) (by with_reducible rfl) (by with_reducible rfl) dX10_shift_155 ?_ | refine z_imul (pc := 155) dX10_shift_155 ?_
      refine z_iload (pc := 156) dX10_shift_156 rfl ?_
      first | refine z_iaddN (pc := 158) (by with_reducible rfl) (by with_reducible rfl) dX10_shift_158 ?_ | refine z_iadd (pc := 158) dX10_shift_158 ?_
      refine z_iload (pc := 159) dX10_shift_159 rfl ?_
      first | refine z_iaddN (pc := 161) (by with_reducible rfl) (by with_reducible rfl) dX10_shift_161 ?_ | refine z_iadd (pc := 161) dX10_shift_161 ?_
      refine z_aload_n (pc := 162) dX10_shift_162 rfl rfl ?_
      refine z_getR (pc := 163) dX10_shift_163 f_RX10_61 (by assumption) rfl ?_
      refine z_iload (pc := 166) dX10_shift_166 rfl ?_
      refine z_laloadv (pc := 168) dX10_shift_168 (by assumption) (by with_reducible rfl) (by omega) (by decide) (by first | assumption | exact h0 k (by omega) | rfl) ?_
      refine z_lastore (pc := 169) dX10_shift_169 (by assumption) (by with_reducible rfl) (by omega) (by decide) ?_
      first | refine z_iincN (pc := 170) (c := 1) dX10_shift_170 rfl (by with_reducible rfl) (by decide) (by decide) rfl ?_ | refine z_iinc (pc := 170) dX10_shift_170 rfl rfl (by decide) rfl ?_
      try dsimp only [zst1, zst2, zk]
      refine z_goto (pc := 173) (tgt := 141) dX10_shift_173 (by decide) ?_
      refine ih (k + 1) _ (by omega) (fun i hi => (zup_n _ _ (by omega)).trans (h0 i hi)) (fun i hi => ?_) (fun p z h h3 => (zup_n _ _ (by omega)).trans (h2 p z h (by omega))) hq
      by_cases e : i = k
      · rw [e]; exact zup_s _ _ _ _
      · rw [zup_n _ _ (by omega)]; exact h1 i (by omega)
set_option maxHeartbeats 2000000 in
set_option maxRecDepth 20000 in
theorem c_X10_shift {lay : List zL} {I : zI} {J : zJ} {S : zS} (hM : kM lay) (hV : vM I J S) {t i u j n : Int32} : zMet lay MX10_shift 2 [.ref 79, .int t, .int i, .int u, .int j, .int n] I J (fun r I' J' => zPM I J (fshift S t i u j n) r I' J') := by
  refine zMet_of (t := MX10_shift) (ls := [.ref 79, .int t, .int i, .int u, .int j, .int n, .null]) (by decide +kernel) (Nat.le_of_ble_eq_true rfl) rfl ?_
  obtain ⟨mo, m80, m81, m82, m83, m84, m85, m86, m87, m88, m89, m90, m91, m92, m93, m94, m95, m96⟩ := id hM
  obtain ⟨v0, v1, v2, v3⟩ := id hV.2.2.2
  refine z_iload_n (pc := 0) dX10_shift_0 rfl rfl ?_
  refine z_callS (pc := 1) c_X10_isTape dX10_shift_1 l_RX10_308 m_MX10_isTape s_MX10_isTape rfl (by omega) rfl (Nat.le_of_ble_eq_true rfl) ?_
  rintro _ _ _ ⟨⟨rfl, ht⟩ | ⟨rfl, ht⟩, rfl, rfl⟩
  · obtain ⟨a, rfl, ha⟩ := ht; have hva := v3 a ha; have hv0 := v0 a ha; have hv1 := v1 a ha
    try dsimp only [zov, Option.toList, List.cons_append, List.nil_append]
    first | refine z_if_eqN (pc := 4) (tgt := 14) (by with_reducible rfl) dX10_shift_4 (by decide) (by omega) (fun hb4 => absurd hb4 (by decide)) (fun hb4 => ?_) | refine z_if_eq (pc := 4) (tgt := 14) dX10_shift_4 (by decide) (fun hb4 => absurd hb4 (by decide)) (fun hb4 => ?_)
    · skip
      refine z_iload_n (pc := 7) dX10_shift_7 rfl rfl ?_
      refine z_callS (pc := 8) c_X10_isTape dX10_shift_8 l_RX10_308 m_MX10_isTape s_MX10_isTape rfl (by omega) rfl (Nat.le_of_ble_eq_true rfl) ?_
      rintro _ _ _ ⟨⟨rfl, hu⟩ | ⟨rfl, hu⟩, rfl, rfl⟩
      · obtain ⟨b, rfl, hbb⟩ := hu; have hvb := v3 b hbb; have hu0 := v0 b hbb; have hu1 := v1 b hbb
        try dsimp only [zov, Option.toList, List.cons_append, List.nil_append]
        first | refine z_if_neN (pc := 11) (tgt := 16) (by with_reducible rfl) dX10_shift_11 (by decide) (by omega) (fun hb11 => ?_) (fun hb11 => absurd hb11 (by decide)) | refine z_if_ne (pc := 11) (tgt := 16) dX10_shift_11 (by decide) (fun hb11 => ?_) (fun hb11 => absurd hb11 (by decide))
        · skip
          refine z_aload_n (pc := 16) dX10_shift_16 rfl rfl ?_
          refine z_getR (pc := 17) dX10_shift_17 f_RX10_52 (by assumption) rfl ?_
          refine z_iload_n (pc := 20) dX10_shift_20 rfl rfl ?_
          refine z_ialoadv (pc := 21) dX10_shift_21 (by assumption) (by with_reducible rfl) (by omega) (by decide) (by first | assumption | rfl) ?_
          refine z_iconst (pc := 22) (v := -1) dX10_shift_22 (by decide) ?_
          refine z_icmp_eq (pc := 23) (tgt := 36) dX10_shift_23 (by decide) (fun hb23 => ?_) (fun hb23 => ?_)
          · skip
            refine z_bipush (pc := 36) (v := -11) dX10_shift_36 (by decide) ?_
            refine z_iret (pc := 38) dX10_shift_38 rfl ?_
            first
              | exact zPM_same hV (fshift_0 ht)
              | exact zPM_same hV (fshift_1 hu)
              | exact zPM_same hV (fshift_2 ha hbb (Or.inl hb23))
              | exact zPM_same hV (fshift_2 ha hbb (Or.inr hb33))
              | exact zPM_same hV (fshift_3 ha hbb (fun q => q.elim hb23 hb33) hb51)
              | exact zPM_same hV (fshift_4 ha hbb (fun q => q.elim hb23 hb33) hb51 (fun q => by obtain ⟨⟨a1, b1, e1, e2, e3⟩, a2, b2, e4, e5, e6⟩ := q; rw [e2] at hb59; exact nI_pos (by omega) hb59))
              | exact zPM_same hV (fshift_4 ha hbb (fun q => q.elim hb23 hb33) hb51 (fun q => by obtain ⟨⟨a1, b1, e1, e2, e3⟩, a2, b2, e4, e5, e6⟩ := q; rw [e1] at hb63; exact nI_pos (by omega) hb63))
              | exact zPM_same hV (fshift_4 ha hbb (fun q => q.elim hb23 hb33) hb51 (fun q => by obtain ⟨⟨a1, b1, e1, e2, e3⟩, a2, b2, e4, e5, e6⟩ := q; rw [e4] at hb68; exact nI_pos (by omega) hb68))
              | exact zPM_same hV (fshift_4 ha hbb (fun q => q.elim hb23 hb33) hb51 (fun q => by obtain ⟨⟨a1, b1, e1, e2, e3⟩, a2, b2, e4, e5, e6⟩ := q; have f1 := nI_inj hx (by omega) e1; have f2 := nI_inj hm (by omega) e2; have f3 := hS1.mp hb81; omega))
              | exact zPM_same hV (fshift_4 ha hbb (fun q => q.elim hb23 hb33) hb51 (fun q => by obtain ⟨⟨a1, b1, e1, e2, e3⟩, a2, b2, e4, e5, e6⟩ := q; have f1 := nI_inj hy (by omega) e4; have f2 := nI_inj hm (by omega) e5; exact hb95 (hS2.mpr (by omega))))
              | fail
          · skip
            refine z_aload_n (pc := 26) dX10_shift_26 rfl rfl ?_
            refine z_getR (pc := 27) dX10_shift_27 f_RX10_52 (by assumption) rfl ?_
            refine z_iload_n (pc := 30) dX10_shift_30 rfl rfl ?_
            refine z_ialoadv (pc := 31) dX10_shift_31 (by assumption) (by with_reducible rfl) (by omega) (by decide) (by first | assumption | rfl) ?_
            refine z_iconst (pc := 32) (v := -1) dX10_shift_32 (by decide) ?_
            refine z_icmp_ne (pc := 33) (tgt := 39) dX10_shift_33 (by decide) (fun hb33 => ?_) (fun hb33 => ?_)
            · skip
              refine z_aload_n (pc := 39) dX10_shift_39 rfl rfl ?_
              refine z_getR (pc := 40) dX10_shift_40 f_RX10_52 (by assumption) rfl ?_
              refine z_iload_n (pc := 43) dX10_shift_43 rfl rfl ?_
              refine z_ialoadv (pc := 44) dX10_shift_44 (by assumption) (by with_reducible rfl) (by omega) (by decide) (by first | assumption | rfl) ?_
              refine z_aload_n (pc := 45) dX10_shift_45 rfl rfl ?_
              refine z_getR (pc := 46) dX10_shift_46 f_RX10_52 (by assumption) rfl ?_
              refine z_iload_n (pc := 49) dX10_shift_49 rfl rfl ?_
              refine z_ialoadv (pc := 50) dX10_shift_50 (by assumption) (by with_reducible rfl) (by omega) (by decide) (by first | assumption | rfl) ?_
              refine z_icmp_eq (pc := 51) (tgt := 57) dX10_shift_51 (by decide) (fun hb51 => ?_) (fun hb51 => ?_)
              · skip
                refine z_iload (pc := 57) dX10_shift_57 rfl ?_
                refine z_if_lt (pc := 59) (tgt := 98) dX10_shift_59 (by decide) (fun hb59 => ?_) (fun hb59 => ?_)
                · skip
                  refine z_bipush (pc := 98) (v := -13) dX10_shift_98 (by decide) ?_
                  refine z_iret (pc := 100) dX10_shift_100 rfl ?_
                  first
                    | exact zPM_same hV (fshift_0 ht)
                    | exact zPM_same hV (fshift_1 hu)
                    | exact zPM_same hV (fshift_2 ha hbb (Or.inl hb23))
                    | exact zPM_same hV (fshift_2 ha hbb (Or.inr hb33))
                    | exact zPM_same hV (fshift_3 ha hbb (fun q => q.elim hb23 hb33) hb51)
                    | exact zPM_same hV (fshift_4 ha hbb (fun q => q.elim hb23 hb33) hb51 (fun q => by obtain ⟨⟨a1, b1, e1, e2, e3⟩, a2, b2, e4, e5, e6⟩ := q; rw [e2] at hb59; exact nI_pos (by omega) hb59))
                    | exact zPM_same hV (fshift_4 ha hbb (fun q => q.elim hb23 hb33) hb51 (fun q => by obtain ⟨⟨a1, b1, e1, e2, e3⟩, a2, b2, e4, e5, e6⟩ := q; rw [e1] at hb63; exact nI_pos (by omega) hb63))
                    | exact zPM_same hV (fshift_4 ha hbb (fun q => q.elim hb23 hb33) hb51 (fun q => by obtain ⟨⟨a1, b1, e1, e2, e3⟩, a2, b2, e4, e5, e6⟩ := q; rw [e4] at hb68; exact nI_pos (by omega) hb68))
                    | exact zPM_same hV (fshift_4 ha hbb (fun q => q.elim hb23 hb33) hb51 (fun q => by obtain ⟨⟨a1, b1, e1, e2, e3⟩, a2, b2, e4, e5, e6⟩ := q; have f1 := nI_inj hx (by omega) e1; have f2 := nI_inj hm (by omega) e2; have f3 := hS1.mp hb81; omega))
                    | exact zPM_same hV (fshift_4 ha hbb (fun q => q.elim hb23 hb33) hb51 (fun q => by obtain ⟨⟨a1, b1, e1, e2, e3⟩, a2, b2, e4, e5, e6⟩ := q; have f1 := nI_inj hy (by omega) e4; have f2 := nI_inj hm (by omega) e5; exact hb95 (hS2.mpr (by omega))))
                    | fail
                · skip
                  refine z_iload_n (pc := 62) dX10_shift_62 rfl rfl ?_
                  refine z_if_lt (pc := 63) (tgt := 98) dX10_shift_63 (by decide) (fun hb63 => ?_) (fun hb63 => ?_)
                  · skip
                    refine z_bipush (pc := 98) (v := -13) dX10_shift_98 (by decide) ?_
                    refine z_iret (pc := 100) dX10_shift_100 rfl ?_
                    first
                      | exact zPM_same hV (fshift_0 ht)
                      | exact zPM_same hV (fshift_1 hu)
                      | exact zPM_same hV (fshift_2 ha hbb (Or.inl hb23))
                      | exact zPM_same hV (fshift_2 ha hbb (Or.inr hb33))
                      | exact zPM_same hV (fshift_3 ha hbb (fun q => q.elim hb23 hb33) hb51)
                      | exact zPM_same hV (fshift_4 ha hbb (fun q => q.elim hb23 hb33) hb51 (fun q => by obtain ⟨⟨a1, b1, e1, e2, e3⟩, a2, b2, e4, e5, e6⟩ := q; rw [e2] at hb59; exact nI_pos (by omega) hb59))
                      | exact zPM_same hV (fshift_4 ha hbb (fun q => q.elim hb23 hb33) hb51 (fun q => by obtain ⟨⟨a1, b1, e1, e2, e3⟩, a2, b2, e4, e5, e6⟩ := q; rw [e1] at hb63; exact nI_pos (by omega) hb63))
                      | exact zPM_same hV (fshift_4 ha hbb (fun q => q.elim hb23 hb33) hb51 (fun q => by obtain ⟨⟨a1, b1, e1, e2, e3⟩, a2, b2, e4, e5, e6⟩ := q; rw [e4] at hb68; exact nI_pos (by omega) hb68))
                      | exact zPM_same hV (fshift_4 ha hbb (fun q => q.elim hb23 hb33) hb51 (fun q => by obtain ⟨⟨a1, b1, e1, e2, e3⟩, a2, b2, e4, e5, e6⟩ := q; have f1 := nI_inj hx (by omega) e1; have f2 := nI_inj hm (by omega) e2; have f3 := hS1.mp hb81; omega))
                      | exact zPM_same hV (fshift_4 ha hbb (fun q => q.elim hb23 hb33) hb51 (fun q => by obtain ⟨⟨a1, b1, e1, e2, e3⟩, a2, b2, e4, e5, e6⟩ := q; have f1 := nI_inj hy (by omega) e4; have f2 := nI_inj hm (by omega) e5; exact hb95 (hS2.mpr (by omega))))
                      | fail
                  · skip
                    refine z_iload (pc := 66) dX10_shift_66 rfl ?_
                    refine z_if_lt (pc := 68) (tgt := 98) dX10_shift_68 (by decide) (fun hb68 => ?_) (fun hb68 => ?_)
                    · skip
                      refine z_bipush (pc := 98) (v := -13) dX10_shift_98 (by decide) ?_
                      refine z_iret (pc := 100) dX10_shift_100 rfl ?_
                      first
                        | exact zPM_same hV (fshift_0 ht)
                        | exact zPM_same hV (fshift_1 hu)
                        | exact zPM_same hV (fshift_2 ha hbb (Or.inl hb23))
                        | exact zPM_same hV (fshift_2 ha hbb (Or.inr hb33))
                        | exact zPM_same hV (fshift_3 ha hbb (fun q => q.elim hb23 hb33) hb51)
                        | exact zPM_same hV (fshift_4 ha hbb (fun q => q.elim hb23 hb33) hb51 (fun q => by obtain ⟨⟨a1, b1, e1, e2, e3⟩, a2, b2, e4, e5, e6⟩ := q; rw [e2] at hb59; exact nI_pos (by omega) hb59))
                        | exact zPM_same hV (fshift_4 ha hbb (fun q => q.elim hb23 hb33) hb51 (fun q => by obtain ⟨⟨a1, b1, e1, e2, e3⟩, a2, b2, e4, e5, e6⟩ := q; rw [e1] at hb63; exact nI_pos (by omega) hb63))
                        | exact zPM_same hV (fshift_4 ha hbb (fun q => q.elim hb23 hb33) hb51 (fun q => by obtain ⟨⟨a1, b1, e1, e2, e3⟩, a2, b2, e4, e5, e6⟩ := q; rw [e4] at hb68; exact nI_pos (by omega) hb68))
                        | exact zPM_same hV (fshift_4 ha hbb (fun q => q.elim hb23 hb33) hb51 (fun q => by obtain ⟨⟨a1, b1, e1, e2, e3⟩, a2, b2, e4, e5, e6⟩ := q; have f1 := nI_inj hx (by omega) e1; have f2 := nI_inj hm (by omega) e2; have f3 := hS1.mp hb81; omega))
                        | exact zPM_same hV (fshift_4 ha hbb (fun q => q.elim hb23 hb33) hb51 (fun q => by obtain ⟨⟨a1, b1, e1, e2, e3⟩, a2, b2, e4, e5, e6⟩ := q; have f1 := nI_inj hy (by omega) e4; have f2 := nI_inj hm (by omega) e5; exact hb95 (hS2.mpr (by omega))))
                        | fail
                    · skip
                      obtain ⟨m, rfl, hm⟩ := nI_any hb59
                      obtain ⟨x, rfl, hx⟩ := nI_any hb63
                      obtain ⟨y, rfl, hy⟩ := nI_any hb68
                      have hS1 := zsl_2 (x := x) hva.1 hm hx
                      refine z_iload_n (pc := 71) dX10_shift_71 rfl rfl ?_
                      refine z_aload_n (pc := 72) dX10_shift_72 rfl rfl ?_
                      refine z_getR (pc := 73) dX10_shift_73 f_RX10_55 (by assumption) rfl ?_
                      refine z_iload_n (pc := 76) dX10_shift_76 rfl rfl ?_
                      refine z_ialoadv (pc := 77) dX10_shift_77 (by assumption) (by with_reducible rfl) (by omega) (by decide) (by first | assumption | rfl) ?_
                      refine z_iload (pc := 78) dX10_shift_78 rfl ?_
                      first | refine z_isubN (pc := 80) (by with_reducible rfl) (by with_reducible rfl) dX10_shift_80 (by omega) ?_ | refine z_isub (pc := 80) dX10_shift_80 ?_
                      refine z_icmp_gt (pc := 81) (tgt := 98) dX10_shift_81 (by decide) (fun hb81 => ?_) (fun hb81 => ?_)
                      · skip
                        refine z_bipush (pc := 98) (v := -13) dX10_shift_98 (by decide) ?_
                        refine z_iret (pc := 100) dX10_shift_100 rfl ?_
                        first
                          | exact zPM_same hV (fshift_0 ht)
                          | exact zPM_same hV (fshift_1 hu)
                          | exact zPM_same hV (fshift_2 ha hbb (Or.inl hb23))
                          | exact zPM_same hV (fshift_2 ha hbb (Or.inr hb33))
                          | exact zPM_same hV (fshift_3 ha hbb (fun q => q.elim hb23 hb33) hb51)
                          | exact zPM_same hV (fshift_4 ha hbb (fun q => q.elim hb23 hb33) hb51 (fun q => by obtain ⟨⟨a1, b1, e1, e2, e3⟩, a2, b2, e4, e5, e6⟩ := q; rw [e2] at hb59; exact nI_pos (by omega) hb59))
                          | exact zPM_same hV (fshift_4 ha hbb (fun q => q.elim hb23 hb33) hb51 (fun q => by obtain ⟨⟨a1, b1, e1, e2, e3⟩, a2, b2, e4, e5, e6⟩ := q; rw [e1] at hb63; exact nI_pos (by omega) hb63))
                          | exact zPM_same hV (fshift_4 ha hbb (fun q => q.elim hb23 hb33) hb51 (fun q => by obtain ⟨⟨a1, b1, e1, e2, e3⟩, a2, b2, e4, e5, e6⟩ := q; rw [e4] at hb68; exact nI_pos (by omega) hb68))
                          | exact zPM_same hV (fshift_4 ha hbb (fun q => q.elim hb23 hb33) hb51 (fun q => by obtain ⟨⟨a1, b1, e1, e2, e3⟩, a2, b2, e4, e5, e6⟩ := q; have f1 := nI_inj hx (by omega) e1; have f2 := nI_inj hm (by omega) e2; have f3 := hS1.mp hb81; omega))
                          | exact zPM_same hV (fshift_4 ha hbb (fun q => q.elim hb23 hb33) hb51 (fun q => by obtain ⟨⟨a1, b1, e1, e2, e3⟩, a2, b2, e4, e5, e6⟩ := q; have f1 := nI_inj hy (by omega) e4; have f2 := nI_inj hm (by omega) e5; exact hb95 (hS2.mpr (by omega))))
                          | fail
                      · skip
                        have hS2 := zsl_3 (x := y) hvb.1 hm hy
                        refine z_iload (pc := 84) dX10_shift_84 rfl ?_
                        refine z_aload_n (pc := 86) dX10_shift_86 rfl rfl ?_
                        refine z_getR (pc := 87) dX10_shift_87 f_RX10_55 (by assumption) rfl ?_
                        refine z_iload_n (pc := 90) dX10_shift_90 rfl rfl ?_
                        refine z_ialoadv (pc := 91) dX10_shift_91 (by assumption) (by with_reducible rfl) (by omega) (by decide) (by first | assumption | rfl) ?_
                        refine z_iload (pc := 92) dX10_shift_92 rfl ?_
                        first | refine z_isubN (pc := 94) (by with_reducible rfl) (by with_reducible rfl) dX10_shift_94 (by omega) ?_ | refine z_isub (pc := 94) dX10_shift_94 ?_
                        refine z_icmp_le (pc := 95) (tgt := 101) dX10_shift_95 (by decide) (fun hb95 => ?_) (fun hb95 => ?_)
                        · skip
                          refine z_iconst (pc := 101) (v := nI 0) dX10_shift_101 (by decide) ?_
                          refine z_istore (pc := 102) dX10_shift_102 (by decide) rfl ?_
                          try dsimp only [zst1, zst2, zk]
                          have g1 : x + m ≤ S.le a := Nat.le_of_not_lt (fun z => hb81 (hS1.mpr z))
                          have g2 : y + m ≤ S.le b := hS2.mp hb95
                          refine l1_X10_shift (b := b) (y := y) hM (by omega) (by omega) (fun J1 h1 h2 => ?_) m 0 J (Nat.zero_add _) (fun i h => absurd h (by omega)) (fun _ _ _ => rfl)
                          refine z_iconst (pc := 138) (v := nI 0) dX10_shift_138 (by decide) ?_
                          refine z_istore (pc := 139) dX10_shift_139 (by decide) rfl ?_
                          try dsimp only [zst1, zst2, zk]
                          refine l2_X10_shift (J0 := J1) (c := fun i => J 95 (60 * a + x + i)) hM (by omega) (by omega) m 0 J1 (Nat.zero_add _) h1 (fun i h => absurd h (by omega)) (fun _ _ _ _ => rfl) (fun J2 h3 h4 => ?_)
                          exact zPM_tape hV (fun _ _ _ _ => rfl) (fun p z q => (h4 p z (by omega) (by omega)).trans (h2 p z (by omega))) (vMQ_move hV.2.2.2 ha hbb g1 g2 h3 (fun z hz => (h4 95 z (by omega) (by omega)).trans (h2 95 z (by omega)))) (fshift_5 ha hbb (fun q => q.elim hb23 hb33) hb51 hva.1 hvb.1 g1 g2)
                        · skip
                          refine z_bipush (pc := 98) (v := -13) dX10_shift_98 (by decide) ?_
                          refine z_iret (pc := 100) dX10_shift_100 rfl ?_
                          first
                            | exact zPM_same hV (fshift_0 ht)
                            | exact zPM_same hV (fshift_1 hu)
                            | exact zPM_same hV (fshift_2 ha hbb (Or.inl hb23))
                            | exact zPM_same hV (fshift_2 ha hbb (Or.inr hb33))
                            | exact zPM_same hV (fshift_3 ha hbb (fun q => q.elim hb23 hb33) hb51)
                            | exact zPM_same hV (fshift_4 ha hbb (fun q => q.elim hb23 hb33) hb51 (fun q => by obtain ⟨⟨a1, b1, e1, e2, e3⟩, a2, b2, e4, e5, e6⟩ := q; rw [e2] at hb59; exact nI_pos (by omega) hb59))
                            | exact zPM_same hV (fshift_4 ha hbb (fun q => q.elim hb23 hb33) hb51 (fun q => by obtain ⟨⟨a1, b1, e1, e2, e3⟩, a2, b2, e4, e5, e6⟩ := q; rw [e1] at hb63; exact nI_pos (by omega) hb63))
                            | exact zPM_same hV (fshift_4 ha hbb (fun q => q.elim hb23 hb33) hb51 (fun q => by obtain ⟨⟨a1, b1, e1, e2, e3⟩, a2, b2, e4, e5, e6⟩ := q; rw [e4] at hb68; exact nI_pos (by omega) hb68))
                            | exact zPM_same hV (fshift_4 ha hbb (fun q => q.elim hb23 hb33) hb51 (fun q => by obtain ⟨⟨a1, b1, e1, e2, e3⟩, a2, b2, e4, e5, e6⟩ := q; have f1 := nI_inj hx (by omega) e1; have f2 := nI_inj hm (by omega) e2; have f3 := hS1.mp hb81; omega))
                            | exact zPM_same hV (fshift_4 ha hbb (fun q => q.elim hb23 hb33) hb51 (fun q => by obtain ⟨⟨a1, b1, e1, e2, e3⟩, a2, b2, e4, e5, e6⟩ := q; have f1 := nI_inj hy (by omega) e4; have f2 := nI_inj hm (by omega) e5; exact hb95 (hS2.mpr (by omega))))
                            | fail
              · skip
                refine z_bipush (pc := 54) (v := -12) dX10_shift_54 (by decide) ?_
                refine z_iret (pc := 56) dX10_shift_56 rfl ?_
                first
                  | exact zPM_same hV (fshift_0 ht)
                  | exact zPM_same hV (fshift_1 hu)
                  | exact zPM_same hV (fshift_2 ha hbb (Or.inl hb23))
                  | exact zPM_same hV (fshift_2 ha hbb (Or.inr hb33))
                  | exact zPM_same hV (fshift_3 ha hbb (fun q => q.elim hb23 hb33) hb51)
                  | exact zPM_same hV (fshift_4 ha hbb (fun q => q.elim hb23 hb33) hb51 (fun q => by obtain ⟨⟨a1, b1, e1, e2, e3⟩, a2, b2, e4, e5, e6⟩ := q; rw [e2] at hb59; exact nI_pos (by omega) hb59))
                  | exact zPM_same hV (fshift_4 ha hbb (fun q => q.elim hb23 hb33) hb51 (fun q => by obtain ⟨⟨a1, b1, e1, e2, e3⟩, a2, b2, e4, e5, e6⟩ := q; rw [e1] at hb63; exact nI_pos (by omega) hb63))
                  | exact zPM_same hV (fshift_4 ha hbb (fun q => q.elim hb23 hb33) hb51 (fun q => by obtain ⟨⟨a1, b1, e1, e2, e3⟩, a2, b2, e4, e5, e6⟩ := q; rw [e4] at hb68; exact nI_pos (by omega) hb68))
                  | exact zPM_same hV (fshift_4 ha hbb (fun q => q.elim hb23 hb33) hb51 (fun q => by obtain ⟨⟨a1, b1, e1, e2, e3⟩, a2, b2, e4, e5, e6⟩ := q; have f1 := nI_inj hx (by omega) e1; have f2 := nI_inj hm (by omega) e2; have f3 := hS1.mp hb81; omega))
                  | exact zPM_same hV (fshift_4 ha hbb (fun q => q.elim hb23 hb33) hb51 (fun q => by obtain ⟨⟨a1, b1, e1, e2, e3⟩, a2, b2, e4, e5, e6⟩ := q; have f1 := nI_inj hy (by omega) e4; have f2 := nI_inj hm (by omega) e5; exact hb95 (hS2.mpr (by omega))))
                  | fail
            · skip
              refine z_bipush (pc := 36) (v := -11) dX10_shift_36 (by decide) ?_
              refine z_iret (pc := 38) dX10_shift_38 rfl ?_
              first
                | exact zPM_same hV (fshift_0 ht)
                | exact zPM_same hV (fshift_1 hu)
                | exact zPM_same hV (fshift_2 ha hbb (Or.inl hb23))
                | exact zPM_same hV (fshift_2 ha hbb (Or.inr hb33))
                | exact zPM_same hV (fshift_3 ha hbb (fun q => q.elim hb23 hb33) hb51)
                | exact zPM_same hV (fshift_4 ha hbb (fun q => q.elim hb23 hb33) hb51 (fun q => by obtain ⟨⟨a1, b1, e1, e2, e3⟩, a2, b2, e4, e5, e6⟩ := q; rw [e2] at hb59; exact nI_pos (by omega) hb59))
                | exact zPM_same hV (fshift_4 ha hbb (fun q => q.elim hb23 hb33) hb51 (fun q => by obtain ⟨⟨a1, b1, e1, e2, e3⟩, a2, b2, e4, e5, e6⟩ := q; rw [e1] at hb63; exact nI_pos (by omega) hb63))
                | exact zPM_same hV (fshift_4 ha hbb (fun q => q.elim hb23 hb33) hb51 (fun q => by obtain ⟨⟨a1, b1, e1, e2, e3⟩, a2, b2, e4, e5, e6⟩ := q; rw [e4] at hb68; exact nI_pos (by omega) hb68))
                | exact zPM_same hV (fshift_4 ha hbb (fun q => q.elim hb23 hb33) hb51 (fun q => by obtain ⟨⟨a1, b1, e1, e2, e3⟩, a2, b2, e4, e5, e6⟩ := q; have f1 := nI_inj hx (by omega) e1; have f2 := nI_inj hm (by omega) e2; have f3 := hS1.mp hb81; omega))
                | exact zPM_same hV (fshift_4 ha hbb (fun q => q.elim hb23 hb33) hb51 (fun q => by obtain ⟨⟨a1, b1, e1, e2, e3⟩, a2, b2, e4, e5, e6⟩ := q; have f1 := nI_inj hy (by omega) e4; have f2 := nI_inj hm (by omega) e5; exact hb95 (hS2.mpr (by omega))))
                | fail
      · skip
        try dsimp only [zov, Option.toList, List.cons_append, List.nil_append]
        first | refine z_if_neN (pc := 11) (tgt := 16) (by with_reducible rfl) dX10_shift_11 (by decide) (by omega) (fun hb11 => absurd hb11 (by decide)) (fun hb11 => ?_) | refine z_if_ne (pc := 11) (tgt := 16) dX10_shift_11 (by decide) (fun hb11 => absurd hb11 (by decide)) (fun hb11 => ?_)
        · skip
          refine z_iconst (pc := 14) (v := -1) dX10_shift_14 (by decide) ?_
          refine z_iret (pc := 15) dX10_shift_15 rfl ?_
          first
            | exact zPM_same hV (fshift_0 ht)
            | exact zPM_same hV (fshift_1 hu)
            | exact zPM_same hV (fshift_2 ha hbb (Or.inl hb23))
            | exact zPM_same hV (fshift_2 ha hbb (Or.inr hb33))
            | exact zPM_same hV (fshift_3 ha hbb (fun q => q.elim hb23 hb33) hb51)
            | exact zPM_same hV (fshift_4 ha hbb (fun q => q.elim hb23 hb33) hb51 (fun q => by obtain ⟨⟨a1, b1, e1, e2, e3⟩, a2, b2, e4, e5, e6⟩ := q; rw [e2] at hb59; exact nI_pos (by omega) hb59))
            | exact zPM_same hV (fshift_4 ha hbb (fun q => q.elim hb23 hb33) hb51 (fun q => by obtain ⟨⟨a1, b1, e1, e2, e3⟩, a2, b2, e4, e5, e6⟩ := q; rw [e1] at hb63; exact nI_pos (by omega) hb63))
            | exact zPM_same hV (fshift_4 ha hbb (fun q => q.elim hb23 hb33) hb51 (fun q => by obtain ⟨⟨a1, b1, e1, e2, e3⟩, a2, b2, e4, e5, e6⟩ := q; rw [e4] at hb68; exact nI_pos (by omega) hb68))
            | exact zPM_same hV (fshift_4 ha hbb (fun q => q.elim hb23 hb33) hb51 (fun q => by obtain ⟨⟨a1, b1, e1, e2, e3⟩, a2, b2, e4, e5, e6⟩ := q; have f1 := nI_inj hx (by omega) e1; have f2 := nI_inj hm (by omega) e2; have f3 := hS1.mp hb81; omega))
            | exact zPM_same hV (fshift_4 ha hbb (fun q => q.elim hb23 hb33) hb51 (fun q => by obtain ⟨⟨a1, b1, e1, e2, e3⟩, a2, b2, e4, e5, e6⟩ := q; have f1 := nI_inj hy (by omega) e4; have f2 := nI_inj hm (by omega) e5; exact hb95 (hS2.mpr (by omega))))
            | fail
  · skip
    try dsimp only [zov, Option.toList, List.cons_append, List.nil_append]
    first | refine z_if_eqN (pc := 4) (tgt := 14) (by with_reducible rfl) dX10_shift_4 (by decide) (by omega) (fun hb4 => ?_) (fun hb4 => absurd hb4 (by decide)) | refine z_if_eq (pc := 4) (tgt := 14) dX10_shift_4 (by decide) (fun hb4 => ?_) (fun hb4 => absurd hb4 (by decide))
    · skip
      refine z_iconst (pc := 14) (v := -1) dX10_shift_14 (by decide) ?_
      refine z_iret (pc := 15) dX10_shift_15 rfl ?_
      first
        | exact zPM_same hV (fshift_0 ht)
        | exact zPM_same hV (fshift_1 hu)
        | exact zPM_same hV (fshift_2 ha hbb (Or.inl hb23))
        | exact zPM_same hV (fshift_2 ha hbb (Or.inr hb33))
        | exact zPM_same hV (fshift_3 ha hbb (fun q => q.elim hb23 hb33) hb51)
        | exact zPM_same hV (fshift_4 ha hbb (fun q => q.elim hb23 hb33) hb51 (fun q => by obtain ⟨⟨a1, b1, e1, e2, e3⟩, a2, b2, e4, e5, e6⟩ := q; rw [e2] at hb59; exact nI_pos (by omega) hb59))
        | exact zPM_same hV (fshift_4 ha hbb (fun q => q.elim hb23 hb33) hb51 (fun q => by obtain ⟨⟨a1, b1, e1, e2, e3⟩, a2, b2, e4, e5, e6⟩ := q; rw [e1] at hb63; exact nI_pos (by omega) hb63))
        | exact zPM_same hV (fshift_4 ha hbb (fun q => q.elim hb23 hb33) hb51 (fun q => by obtain ⟨⟨a1, b1, e1, e2, e3⟩, a2, b2, e4, e5, e6⟩ := q; rw [e4] at hb68; exact nI_pos (by omega) hb68))
        | exact zPM_same hV (fshift_4 ha hbb (fun q => q.elim hb23 hb33) hb51 (fun q => by obtain ⟨⟨a1, b1, e1, e2, e3⟩, a2, b2, e4, e5, e6⟩ := q; have f1 := nI_inj hx (by omega) e1; have f2 := nI_inj hm (by omega) e2; have f3 := hS1.mp hb81; omega))
        | exact zPM_same hV (fshift_4 ha hbb (fun q => q.elim hb23 hb33) hb51 (fun q => by obtain ⟨⟨a1, b1, e1, e2, e3⟩, a2, b2, e4, e5, e6⟩ := q; have f1 := nI_inj hy (by omega) e4; have f2 := nI_inj hm (by omega) e5; exact hb95 (hS2.mpr (by omega))))
        | fail
theorem zjd_y {S : zS} {w : Nat → Nat} {t i d k : Nat} (hk : k < 9) (h : k / 3 < S.n 0 ∧ k % 3 < S.n 1) (h1 : i + d < S.le t) (h2 : S.it t (i + d) = lN (w k)) : zjd S w t i d (zl (S.n 0) (S.n 1) k) = zjd S w t i (d + 1) (zl (S.n 0) (S.n 1) (k + 1)) := by
  rw [zl_y hk h, zjd, if_pos h1, if_pos h2]
theorem zjd_n {S : zS} {w : Nat → Nat} {t i d k : Nat} (hk : k < 9) (h : k / 3 < S.n 0 ∧ k % 3 < S.n 1) (h1 : i + d < S.le t) (h2 : ¬ S.it t (i + d) = lN (w k)) : zjd S w t i d (zl (S.n 0) (S.n 1) k) = nI d := by
  rw [zl_y hk h, zjd, if_pos h1, if_neg h2]
theorem zjd_e {S : zS} {w : Nat → Nat} {t i d k : Nat} (hk : k < 9) (h : k / 3 < S.n 0 ∧ k % 3 < S.n 1) (h1 : ¬ i + d < S.le t) : zjd S w t i d (zl (S.n 0) (S.n 1) k) = nI (100 + d) := by
  rw [zl_y hk h, zjd, if_neg h1]
theorem zjd_o {S : zS} {w : Nat → Nat} {t i d k : Nat} (hk : k < 9) (h : ¬ (k / 3 < S.n 0 ∧ k % 3 < S.n 1)) : zjd S w t i d (zl (S.n 0) (S.n 1) k) = zjd S w t i d (zl (S.n 0) (S.n 1) (k + 1)) := by
  rw [zl_n hk h]
theorem zjd_9 {S : zS} {w : Nat → Nat} {t i d : Nat} : zjd S w t i d (zl (S.n 0) (S.n 1) 9) = -5 := by
  rw [zl_9]; rfl
set_option maxHeartbeats 2000000 in
set_option maxRecDepth 20000 in
theorem l_X10_judge {lay : List zL} {Q : Value → zI → zJ → Prop} {S : zS} {w : Nat → Nat} {dd a x : Nat} {I : zI} {J : zJ} (hM : kM lay) (hW : vW I S.n) (hB : bS S.n) (ha : a < 6) (hx : x < 2147483648) (hI : I 94 a = nI (S.le a)) (hle : S.le a ≤ 60) (hJ : ∀ i, i < S.le a → J 95 (60 * a + i) = S.it a i) (hag : zagr I 89 S.n w 9) : ∀ (m k d : Nat), k + m = 9 → d ≤ k → Q (.int (zjd S w a x d (zl (S.n 0) (S.n 1) k))) I J → Z lay MX10_judge (dd + 3) 47 [.ref 79, .int (nI a), .int (nI x), .int (nI d), .int (nI k)] [] I J Q := by
  intro m
  induction m with
  | zero =>
    intro k d hk hd hq
    obtain rfl : k = 9 := (by omega)
    rw [zjd_9] at hq
    obtain ⟨mo, m80, m81, m82, m83, m84, m85, m86, m87, m88, m89, m90, m91, m92, m93, m94, m95, m96⟩ := id hM
    refine z_iload (pc := 47) dX10_judge_47 rfl ?_
    refine z_bipush (pc := 49) (v := nI 9) dX10_judge_49 (by decide) ?_
    first | refine z_icmp_geN (pc := 51) (tgt := 123) (by with_reducible rfl) (by with_reducible rfl) dX10_judge_51 (by decide) (by omega) (by omega) (fun hb51 => ?_) (fun hb51 => absurd (Nat.le_refl 9) hb51) | refine z_icmp_ge (pc := 51) (tgt := 123) dX10_judge_51 (by decide) (fun hb51 => ?_) (fun hb51 => absurd (Nat.le_refl 9) hb51)
    · skip
      refine z_bipush (pc := 123) (v := -5) dX10_judge_123 (by decide) ?_
      refine z_iret (pc := 125) dX10_judge_125 rfl ?_
      exact hq
  | succ m ih =>
    intro k d hk hd hq
    have hS := zsl_1 (le := S.le a) (d := d) (x := x) hle (by omega) hx
    obtain ⟨mo, m80, m81, m82, m83, m84, m85, m86, m87, m88, m89, m90, m91, m92, m93, m94, m95, m96⟩ := id hM
    refine z_iload (pc := 47) dX10_judge_47 rfl ?_
    refine z_bipush (pc := 49) (v := nI 9) dX10_judge_49 (by decide) ?_
    first | refine z_icmp_geN (pc := 51) (tgt := 123) (by with_reducible rfl) (by with_reducible rfl) dX10_judge_51 (by decide) (by omega) (by omega) (fun hb51 => absurd hb51 (by omega)) (fun hb51 => ?_) | refine z_icmp_ge (pc := 51) (tgt := 123) dX10_judge_51 (by decide) (fun hb51 => absurd hb51 (by omega)) (fun hb51 => ?_)
    · skip
      refine z_aload_n (pc := 54) dX10_judge_54 rfl rfl ?_
      refine z_iload (pc := 55) dX10_judge_55 rfl ?_
      refine z_callV (pc := 57) (c_X10_isHere hM hW hB (by omega)) dX10_judge_57 l_RX10_82 m_MX10_isHere n_MX10_isHere e_MX10_isHere rfl (by omega) (by assumption) rfl rfl (Nat.le_of_ble_eq_true rfl) ?_
      rintro _ _ _ ⟨⟨rfl, hc⟩ | ⟨rfl, hc⟩, rfl, rfl⟩
      · have hgw := (hag k (by omega) hc.1 hc.2).1; have hgb := (hag k (by omega) hc.1 hc.2).2
        try dsimp only [zov, Option.toList, List.cons_append, List.nil_append]
        first | refine z_if_neN (pc := 60) (tgt := 66) (by with_reducible rfl) dX10_judge_60 (by decide) (by omega) (fun hb60 => ?_) (fun hb60 => absurd hb60 (by decide)) | refine z_if_ne (pc := 60) (tgt := 66) dX10_judge_60 (by decide) (fun hb60 => ?_) (fun hb60 => absurd hb60 (by decide))
        · skip
          refine z_iload_n (pc := 66) dX10_judge_66 rfl rfl ?_
          first | refine z_if_ltN (pc := 67) (tgt := 82) (by with_reducible rfl) dX10_judge_67 (by decide) (by omega) (fun hb67 => ?_) (fun hb67 => ?_) | refine z_if_lt (pc := 67) (tgt := 82) dX10_judge_67 (by decide) (fun hb67 => ?_) (fun hb67 => ?_)
          · skip
            refine z_bipush (pc := 82) (v := nI 100) dX10_judge_82 (by decide) ?_
            refine z_iload_n (pc := 84) dX10_judge_84 rfl rfl ?_
            first | refine z_iaddN (pc := 85) (by with_reducible rfl) (by with_reducible rfl) dX10_judge_85 ?_ | refine z_iadd (pc := 85) dX10_judge_85 ?_
            refine z_iret (pc := 86) dX10_judge_86 rfl ?_
            first
            | (rw [zjd_e (by omega) hc (fun z => hb79 (hS.mpr z))] at hq; exact hq)
            | (rw [zjd_n (by omega) hc h79 hb108] at hq; exact hq)
            | exact hb67.elim
            | fail
          · skip
            refine z_iload_n (pc := 70) dX10_judge_70 rfl rfl ?_
            refine z_aload_n (pc := 71) dX10_judge_71 rfl rfl ?_
            refine z_getR (pc := 72) dX10_judge_72 f_RX10_55 (by assumption) rfl ?_
            refine z_iload_n (pc := 75) dX10_judge_75 rfl rfl ?_
            refine z_ialoadv (pc := 76) dX10_judge_76 (by assumption) (by with_reducible rfl) (by omega) (by decide) (by first | assumption | exact hji | rfl) ?_
            refine z_iload_n (pc := 77) dX10_judge_77 rfl rfl ?_
            first | refine z_isubN (pc := 78) (by with_reducible rfl) (by with_reducible rfl) dX10_judge_78 (by omega) ?_ | refine z_isub (pc := 78) dX10_judge_78 ?_
            refine z_icmp_lt (pc := 79) (tgt := 87) dX10_judge_79 (by decide) (fun hb79 => ?_) (fun hb79 => ?_)
            · skip
              have h79 := hS.mp hb79
              have hji : J 95 (60 * a + x + d) = S.it a (x + d) := (by rw [Nat.add_assoc]; exact hJ _ h79)
              refine z_aload_n (pc := 87) dX10_judge_87 rfl rfl ?_
              refine z_getR (pc := 88) dX10_judge_88 f_RX10_58 (by assumption) rfl ?_
              refine z_bipush (pc := 91) (v := nI 60) dX10_judge_91 (by decide) ?_
              refine z_iload_n (pc := 93) dX10_judge_93 rfl rfl ?_
              first | refine z_imulN (pc := 94) (by with_reducible rfl) (by with_reducible rfl) dX10_judge_94 ?_ | refine z_imul (pc := 94) dX10_judge_94 ?_
              refine z_iload_n (pc := 95) dX10_judge_95 rfl rfl ?_
              first | refine z_iaddN (pc := 96) (by with_reducible rfl) (by with_reducible rfl) dX10_judge_96 ?_ | refine z_iadd (pc := 96) dX10_judge_96 ?_
              refine z_iload_n (pc := 97) dX10_judge_97 rfl rfl ?_
              first | refine z_iaddN (pc := 98) (by with_reducible rfl) (by with_reducible rfl) dX10_judge_98 ?_ | refine z_iadd (pc := 98) dX10_judge_98 ?_
              refine z_laloadv (pc := 99) dX10_judge_99 (by assumption) (by with_reducible rfl) (by omega) (by decide) (by first | assumption | exact hji | rfl) ?_
              refine z_aload_n (pc := 100) dX10_judge_100 rfl rfl ?_
              refine z_getR (pc := 101) dX10_judge_101 f_RX10_42 (by assumption) rfl ?_
              refine z_iload (pc := 104) dX10_judge_104 rfl ?_
              refine z_ialoadv (pc := 106) dX10_judge_106 (by assumption) (by with_reducible rfl) (by omega) (by decide) (by first | assumption | exact hji | rfl) ?_
              first | refine z_i2lN (pc := 107) (by with_reducible rfl) dX10_judge_107 (by omega) ?_ | refine z_i2l (pc := 107) dX10_judge_107 rfl ?_
              refine z_lc_eq (pc := 108) (tgt := 114) dX10_judge_108 rfl dX10_judge_109 (by decide) (fun hb108 => ?_) (fun hb108 => ?_)
              · skip
                first | refine z_iincN (pc := 114) (c := 1) dX10_judge_114 rfl (by with_reducible rfl) (by decide) (by decide) rfl ?_ | refine z_iinc (pc := 114) dX10_judge_114 rfl rfl (by decide) rfl ?_
                try dsimp only [zst1, zst2, zk]
                first | refine z_iincN (pc := 117) (c := 1) dX10_judge_117 rfl (by with_reducible rfl) (by decide) (by decide) rfl ?_ | refine z_iinc (pc := 117) dX10_judge_117 rfl rfl (by decide) rfl ?_
                try dsimp only [zst1, zst2, zk]
                refine z_goto (pc := 120) (tgt := 47) dX10_judge_120 (by decide) ?_
                first
                | exact ih (k + 1) (d + 1) (by omega) (by omega) (by rw [zjd_y (by omega) hc h79 hb108] at hq; exact hq)
                | exact ih (k + 1) d (by omega) (by omega) (by rw [zjd_o (by omega) hc] at hq; exact hq)
                | fail
              · skip
                refine z_iload_n (pc := 112) dX10_judge_112 rfl rfl ?_
                refine z_iret (pc := 113) dX10_judge_113 rfl ?_
                first
                | (rw [zjd_e (by omega) hc (fun z => hb79 (hS.mpr z))] at hq; exact hq)
                | (rw [zjd_n (by omega) hc h79 hb108] at hq; exact hq)
                | exact hb67.elim
                | fail
            · skip
              refine z_bipush (pc := 82) (v := nI 100) dX10_judge_82 (by decide) ?_
              refine z_iload_n (pc := 84) dX10_judge_84 rfl rfl ?_
              first | refine z_iaddN (pc := 85) (by with_reducible rfl) (by with_reducible rfl) dX10_judge_85 ?_ | refine z_iadd (pc := 85) dX10_judge_85 ?_
              refine z_iret (pc := 86) dX10_judge_86 rfl ?_
              first
              | (rw [zjd_e (by omega) hc (fun z => hb79 (hS.mpr z))] at hq; exact hq)
              | (rw [zjd_n (by omega) hc h79 hb108] at hq; exact hq)
              | exact hb67.elim
              | fail
      · skip
        try dsimp only [zov, Option.toList, List.cons_append, List.nil_append]
        first | refine z_if_neN (pc := 60) (tgt := 66) (by with_reducible rfl) dX10_judge_60 (by decide) (by omega) (fun hb60 => absurd hb60 (by decide)) (fun hb60 => ?_) | refine z_if_ne (pc := 60) (tgt := 66) dX10_judge_60 (by decide) (fun hb60 => absurd hb60 (by decide)) (fun hb60 => ?_)
        · skip
          refine z_goto (pc := 63) (tgt := 117) dX10_judge_63 (by decide) ?_
          first | refine z_iincN (pc := 117) (c := 1) dX10_judge_117 rfl (by with_reducible rfl) (by decide) (by decide) rfl ?_ | refine z_iinc (pc := 117) dX10_judge_117 rfl rfl (by decide) rfl ?_
          try dsimp only [zst1, zst2, zk]
          refine z_goto (pc := 120) (tgt := 47) dX10_judge_120 (by decide) ?_
          first
          | exact ih (k + 1) (d + 1) (by omega) (by omega) (by rw [zjd_y (by omega) hc h79 hb108] at hq; exact hq)
          | exact ih (k + 1) d (by omega) (by omega) (by rw [zjd_o (by omega) hc] at hq; exact hq)
          | fail
set_option maxHeartbeats 2000000 in
set_option maxRecDepth 20000 in
theorem c_X10_judge {lay : List zL} {I : zI} {J : zJ} {S : zS} (hM : kM lay) (hV : vM I J S) {t i : Int32} : zMet lay MX10_judge 17 [.ref 79, .int t, .int i] I J (fun r I' J' => zPM I J (fjudge S t i) r I' J') := by
  refine zMet_of (t := MX10_judge) (ls := [.ref 79, .int t, .int i, .null, .null]) (by decide +kernel) (Nat.le_of_ble_eq_true rfl) rfl ?_
  obtain ⟨mo, m80, m81, m82, m83, m84, m85, m86, m87, m88, m89, m90, m91, m92, m93, m94, m95, m96⟩ := id hM
  have hW : vW I S.n := hV.1.1
  have hb := hV.1.2.1
  have hG := hV.1.2.2
  have hB := hb.1
  have hT := hb.2.1
  obtain ⟨b1, b2, b3, b4, b5, b6, b7, b8⟩ := id hB
  obtain ⟨v0, v1, v2, v3⟩ := id hV.2.2.2
  refine z_iload_n (pc := 0) dX10_judge_0 rfl rfl ?_
  refine z_callS (pc := 1) c_X10_isTape dX10_judge_1 l_RX10_308 m_MX10_isTape s_MX10_isTape rfl (by omega) rfl (Nat.le_of_ble_eq_true rfl) ?_
  rintro _ _ _ ⟨⟨rfl, ht⟩ | ⟨rfl, ht⟩, rfl, rfl⟩
  · obtain ⟨a, rfl, ha⟩ := ht; have hva := v3 a ha; have hv0 := v0 a ha; have hv1 := v1 a ha
    try dsimp only [zov, Option.toList, List.cons_append, List.nil_append]
    first | refine z_if_neN (pc := 4) (tgt := 9) (by with_reducible rfl) dX10_judge_4 (by decide) (by omega) (fun hb4 => ?_) (fun hb4 => absurd hb4 (by decide)) | refine z_if_ne (pc := 4) (tgt := 9) dX10_judge_4 (by decide) (fun hb4 => ?_) (fun hb4 => absurd hb4 (by decide))
    · skip
      refine z_aload_n (pc := 9) dX10_judge_9 rfl rfl ?_
      refine z_callV (pc := 10) (c_X10_isRounded hM hW hB hT hG) dX10_judge_10 l_RX10_253 m_MX10_isRounded n_MX10_isRounded e_MX10_isRounded rfl (by omega) (by assumption) rfl rfl (Nat.le_of_ble_eq_true rfl) ?_
      rintro _ _ _ ⟨⟨rfl, w9, hr, hag⟩ | ⟨rfl, hr⟩, hf, hj⟩
      · have g0 := (hf 93 a (by omega) (by omega) (by omega) (by omega)).trans hv0; have g1 := (hf 94 a (by omega) (by omega) (by omega) (by omega)).trans hv1; have gW := vW_to hW (fun y => hf 80 y (by omega) (by omega) (by omega) (by omega))
        try dsimp only [zov, Option.toList, List.cons_append, List.nil_append]
        first | refine z_if_neN (pc := 13) (tgt := 19) (by with_reducible rfl) dX10_judge_13 (by decide) (by omega) (fun hb13 => ?_) (fun hb13 => absurd hb13 (by decide)) | refine z_if_ne (pc := 13) (tgt := 19) dX10_judge_13 (by decide) (fun hb13 => ?_) (fun hb13 => absurd hb13 (by decide))
        · skip
          refine z_aload_n (pc := 19) dX10_judge_19 rfl rfl ?_
          refine z_getR (pc := 20) dX10_judge_20 f_RX10_52 (by assumption) rfl ?_
          refine z_iload_n (pc := 23) dX10_judge_23 rfl rfl ?_
          refine z_ialoadv (pc := 24) dX10_judge_24 (by assumption) (by with_reducible rfl) (by omega) (by decide) (by first | assumption | rfl) ?_
          refine z_iconst (pc := 25) (v := -1) dX10_judge_25 (by decide) ?_
          refine z_icmp_eq (pc := 26) (tgt := 42) dX10_judge_26 (by decide) (fun hb26 => ?_) (fun hb26 => ?_)
          · skip
            refine z_iconst (pc := 42) (v := nI 0) dX10_judge_42 (by decide) ?_
            refine z_istore_n (pc := 43) dX10_judge_43 rfl (by decide) rfl ?_
            try dsimp only [zst1, zst2, zk]
            refine z_iconst (pc := 44) (v := nI 0) dX10_judge_44 (by decide) ?_
            refine z_istore (pc := 45) dX10_judge_45 (by decide) rfl ?_
            try dsimp only [zst1, zst2, zk]
            by_cases hneg : i < 0
            · have h00 : (0 : Nat) / 3 < S.n 0 ∧ (0 : Nat) % 3 < S.n 1 := ⟨by omega, by omega⟩
              refine z_iload (pc := 47) dX10_judge_47 rfl ?_
              refine z_bipush (pc := 49) (v := nI 9) dX10_judge_49 (by decide) ?_
              first | refine z_icmp_geN (pc := 51) (tgt := 123) (by with_reducible rfl) (by with_reducible rfl) dX10_judge_51 (by decide) (by omega) (by omega) (fun hb51 => absurd hb51 (by decide)) (fun hb51 => ?_) | refine z_icmp_ge (pc := 51) (tgt := 123) dX10_judge_51 (by decide) (fun hb51 => absurd hb51 (by decide)) (fun hb51 => ?_)
              · skip
                refine z_aload_n (pc := 54) dX10_judge_54 rfl rfl ?_
                refine z_iload (pc := 55) dX10_judge_55 rfl ?_
                refine z_callV (pc := 57) (c_X10_isHere hM gW hB (by omega)) dX10_judge_57 l_RX10_82 m_MX10_isHere n_MX10_isHere e_MX10_isHere rfl (by omega) (by assumption) rfl rfl (Nat.le_of_ble_eq_true rfl) ?_
                rintro _ _ _ ⟨⟨rfl, hc⟩ | ⟨rfl, hc⟩, rfl, rfl⟩
                · skip
                  try dsimp only [zov, Option.toList, List.cons_append, List.nil_append]
                  first | refine z_if_neN (pc := 60) (tgt := 66) (by with_reducible rfl) dX10_judge_60 (by decide) (by omega) (fun hb60 => ?_) (fun hb60 => absurd hb60 (by decide)) | refine z_if_ne (pc := 60) (tgt := 66) dX10_judge_60 (by decide) (fun hb60 => ?_) (fun hb60 => absurd hb60 (by decide))
                  · skip
                    refine z_iload_n (pc := 66) dX10_judge_66 rfl rfl ?_
                    refine z_if_lt (pc := 67) (tgt := 82) dX10_judge_67 (by decide) (fun hb67 => ?_) (fun hb67 => absurd hneg hb67)
                    · skip
                      refine z_bipush (pc := 82) (v := nI 100) dX10_judge_82 (by decide) ?_
                      refine z_iload_n (pc := 84) dX10_judge_84 rfl rfl ?_
                      first | refine z_iaddN (pc := 85) (by with_reducible rfl) (by with_reducible rfl) dX10_judge_85 ?_ | refine z_iadd (pc := 85) dX10_judge_85 ?_
                      refine z_iret (pc := 86) dX10_judge_86 rfl ?_
                      first
                      | exact zPM_keep hV (zmR_m hf) (zw2_m hj) (fjudge_2 ha hr hb26)
                      | exact zPM_keep hV (zmR_m hf) (zw2_m hj) (fjudge_4 ha hr hb36 hneg)
                      | fail
                · exact absurd h00 hc
            · obtain ⟨x, rfl, hx⟩ := nI_any hneg
              refine l_X10_judge (dd := 14) hM gW hB ha hx g1 hva.1 (fun k hk => (hj 95 _ (by omega)).trans (v2 a k ha hk)) hag 9 0 0 rfl (by omega) (zPM_keep hV (zmR_m hf) (zw2_m hj) ?_)
              first
              | exact fjudge_5 ha hr hb36 hx
              | (have h00 : (0 : Nat) / 3 < S.n 0 ∧ (0 : Nat) % 3 < S.n 1 := ⟨by omega, by omega⟩
                 have hle0 := hva.2.1 hb26
                 rw [zjd_e (by omega) h00 (by omega)]
                 exact fjudge_2 ha hr hb26)
              | fail
          · skip
            refine z_aload_n (pc := 29) dX10_judge_29 rfl rfl ?_
            refine z_getR (pc := 30) dX10_judge_30 f_RX10_52 (by assumption) rfl ?_
            refine z_iload_n (pc := 33) dX10_judge_33 rfl rfl ?_
            refine z_ialoadv (pc := 34) dX10_judge_34 (by assumption) (by with_reducible rfl) (by omega) (by decide) (by first | assumption | rfl) ?_
            refine z_iconst (pc := 35) (v := nI 2) dX10_judge_35 (by decide) ?_
            refine z_icmp_eq (pc := 36) (tgt := 42) dX10_judge_36 (by decide) (fun hb36 => ?_) (fun hb36 => ?_)
            · skip
              refine z_iconst (pc := 42) (v := nI 0) dX10_judge_42 (by decide) ?_
              refine z_istore_n (pc := 43) dX10_judge_43 rfl (by decide) rfl ?_
              try dsimp only [zst1, zst2, zk]
              refine z_iconst (pc := 44) (v := nI 0) dX10_judge_44 (by decide) ?_
              refine z_istore (pc := 45) dX10_judge_45 (by decide) rfl ?_
              try dsimp only [zst1, zst2, zk]
              by_cases hneg : i < 0
              · have h00 : (0 : Nat) / 3 < S.n 0 ∧ (0 : Nat) % 3 < S.n 1 := ⟨by omega, by omega⟩
                refine z_iload (pc := 47) dX10_judge_47 rfl ?_
                refine z_bipush (pc := 49) (v := nI 9) dX10_judge_49 (by decide) ?_
                first | refine z_icmp_geN (pc := 51) (tgt := 123) (by with_reducible rfl) (by with_reducible rfl) dX10_judge_51 (by decide) (by omega) (by omega) (fun hb51 => absurd hb51 (by decide)) (fun hb51 => ?_) | refine z_icmp_ge (pc := 51) (tgt := 123) dX10_judge_51 (by decide) (fun hb51 => absurd hb51 (by decide)) (fun hb51 => ?_)
                · skip
                  refine z_aload_n (pc := 54) dX10_judge_54 rfl rfl ?_
                  refine z_iload (pc := 55) dX10_judge_55 rfl ?_
                  refine z_callV (pc := 57) (c_X10_isHere hM gW hB (by omega)) dX10_judge_57 l_RX10_82 m_MX10_isHere n_MX10_isHere e_MX10_isHere rfl (by omega) (by assumption) rfl rfl (Nat.le_of_ble_eq_true rfl) ?_
                  rintro _ _ _ ⟨⟨rfl, hc⟩ | ⟨rfl, hc⟩, rfl, rfl⟩
                  · skip
                    try dsimp only [zov, Option.toList, List.cons_append, List.nil_append]
                    first | refine z_if_neN (pc := 60) (tgt := 66) (by with_reducible rfl) dX10_judge_60 (by decide) (by omega) (fun hb60 => ?_) (fun hb60 => absurd hb60 (by decide)) | refine z_if_ne (pc := 60) (tgt := 66) dX10_judge_60 (by decide) (fun hb60 => ?_) (fun hb60 => absurd hb60 (by decide))
                    · skip
                      refine z_iload_n (pc := 66) dX10_judge_66 rfl rfl ?_
                      refine z_if_lt (pc := 67) (tgt := 82) dX10_judge_67 (by decide) (fun hb67 => ?_) (fun hb67 => absurd hneg hb67)
                      · skip
                        refine z_bipush (pc := 82) (v := nI 100) dX10_judge_82 (by decide) ?_
                        refine z_iload_n (pc := 84) dX10_judge_84 rfl rfl ?_
                        first | refine z_iaddN (pc := 85) (by with_reducible rfl) (by with_reducible rfl) dX10_judge_85 ?_ | refine z_iadd (pc := 85) dX10_judge_85 ?_
                        refine z_iret (pc := 86) dX10_judge_86 rfl ?_
                        first
                        | exact zPM_keep hV (zmR_m hf) (zw2_m hj) (fjudge_2 ha hr hb26)
                        | exact zPM_keep hV (zmR_m hf) (zw2_m hj) (fjudge_4 ha hr hb36 hneg)
                        | fail
                  · exact absurd h00 hc
              · obtain ⟨x, rfl, hx⟩ := nI_any hneg
                refine l_X10_judge (dd := 14) hM gW hB ha hx g1 hva.1 (fun k hk => (hj 95 _ (by omega)).trans (v2 a k ha hk)) hag 9 0 0 rfl (by omega) (zPM_keep hV (zmR_m hf) (zw2_m hj) ?_)
                first
                | exact fjudge_5 ha hr hb36 hx
                | (have h00 : (0 : Nat) / 3 < S.n 0 ∧ (0 : Nat) % 3 < S.n 1 := ⟨by omega, by omega⟩
                   have hle0 := hva.2.1 hb26
                   rw [zjd_e (by omega) h00 (by omega)]
                   exact fjudge_2 ha hr hb26)
                | fail
            · skip
              refine z_bipush (pc := 39) (v := -12) dX10_judge_39 (by decide) ?_
              refine z_iret (pc := 41) dX10_judge_41 rfl ?_
              first
                | exact zPM_same hV (fjudge_0 ht)
                | exact zPM_keep hV (zmR_m hf) (zw2_m hj) (fjudge_1 ha hr)
                | exact zPM_keep hV (zmR_m hf) (zw2_m hj) (fjudge_3 ha hr hb26 hb36)
                | fail
      · skip
        try dsimp only [zov, Option.toList, List.cons_append, List.nil_append]
        first | refine z_if_neN (pc := 13) (tgt := 19) (by with_reducible rfl) dX10_judge_13 (by decide) (by omega) (fun hb13 => absurd hb13 (by decide)) (fun hb13 => ?_) | refine z_if_ne (pc := 13) (tgt := 19) dX10_judge_13 (by decide) (fun hb13 => absurd hb13 (by decide)) (fun hb13 => ?_)
        · skip
          refine z_bipush (pc := 16) (v := -6) dX10_judge_16 (by decide) ?_
          refine z_iret (pc := 18) dX10_judge_18 rfl ?_
          first
            | exact zPM_same hV (fjudge_0 ht)
            | exact zPM_keep hV (zmR_m hf) (zw2_m hj) (fjudge_1 ha hr)
            | exact zPM_keep hV (zmR_m hf) (zw2_m hj) (fjudge_3 ha hr hb26 hb36)
            | fail
  · skip
    try dsimp only [zov, Option.toList, List.cons_append, List.nil_append]
    first | refine z_if_neN (pc := 4) (tgt := 9) (by with_reducible rfl) dX10_judge_4 (by decide) (by omega) (fun hb4 => absurd hb4 (by decide)) (fun hb4 => ?_) | refine z_if_ne (pc := 4) (tgt := 9) dX10_judge_4 (by decide) (fun hb4 => absurd hb4 (by decide)) (fun hb4 => ?_)
    · skip
      refine z_iconst (pc := 7) (v := -1) dX10_judge_7 (by decide) ?_
      refine z_iret (pc := 8) dX10_judge_8 rfl ?_
      first
        | exact zPM_same hV (fjudge_0 ht)
        | exact zPM_keep hV (zmR_m hf) (zw2_m hj) (fjudge_1 ha hr)
        | exact zPM_keep hV (zmR_m hf) (zw2_m hj) (fjudge_3 ha hr hb26 hb36)
        | fail
