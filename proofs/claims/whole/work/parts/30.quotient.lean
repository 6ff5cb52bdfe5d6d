/-! ===== the rest of fractions; quotients ===== -/
set_option maxHeartbeats 2000000 in
set_option maxRecDepth 20000 in
theorem c_X0_partOf {lay : List zL} {I : zI} {J : zJ} {a : Nat} (hl : lay[a]? = some (.inl (0, [1, 1]))) {x y : Int64} {p : Int32} (hx : J a 0 = x) (hy : J a 1 = y) : zMet lay MX0_partOf 0 [.ref a, .int p] I J (fun r I' J' => ((p = nI 0 ∧ r = .long x) ∨ (p = nI 1 ∧ r = .long y) ∨ (p ≠ nI 0 ∧ p ≠ nI 1 ∧ r = .long (-9223372036854775808))) ∧ I = I' ∧ J = J') := by
  refine zMet_of (t := MX0_partOf) (ls := [.ref a, .int p]) (by decide +kernel) (Nat.le_of_ble_eq_true rfl) rfl ?_
  refine z_iload_n (pc := 0) dX0_partOf_0 rfl rfl ?_
  by_cases hsw0 : p = nI 0
  · subst hsw0
    refine z_lookup (pc := 1) (off := 27) (tgt := 28) dX0_partOf_1 (by decide) (by decide) (by decide) ?_
    refine z_aload_n (pc := 28) dX0_partOf_28 rfl rfl ?_
    refine z_getJv (pc := 29) dX0_partOf_29 f_RX0_23 (by assumption) rfl (by first | assumption | rfl) ?_
    refine z_lret (pc := 32) dX0_partOf_32 rfl ?_
    exact ⟨Or.inl ⟨rfl, rfl⟩, rfl, rfl⟩
  by_cases hsw1 : p = nI 1
  · subst hsw1
    refine z_lookup (pc := 1) (off := 32) (tgt := 33) dX0_partOf_1 (by decide) (by decide) (by decide) ?_
    refine z_aload_n (pc := 33) dX0_partOf_33 rfl rfl ?_
    refine z_getJv (pc := 34) dX0_partOf_34 f_RX0_9 (by assumption) rfl (by first | assumption | rfl) ?_
    refine z_lret (pc := 37) dX0_partOf_37 rfl ?_
    exact ⟨Or.inr (Or.inl ⟨rfl, rfl⟩), rfl, rfl⟩
  · skip
    have e0 : p.toInt ≠ 0 := fun h => hsw0 (Int32.toInt_inj.mp (h.trans (by decide))); have e1 : p.toInt ≠ 1 := fun h => hsw1 (Int32.toInt_inj.mp (h.trans (by decide)))
    refine z_lookup (pc := 1) (off := 37) (tgt := 38) dX0_partOf_1 (by decide) (by simp [Op.lookupswitch.offset, Ne.symm e0, Ne.symm e1, e0, e1]) (by decide) ?_
    refine z_ldc2 (pc := 38) (v := -9223372036854775808) dX0_partOf_38 q_RX0_28 ?_
    refine z_lret (pc := 41) dX0_partOf_41 rfl ?_
    exact ⟨Or.inr (Or.inr ⟨hsw0, hsw1, rfl⟩), rfl, rfl⟩
set_option maxHeartbeats 2000000 in
set_option maxRecDepth 20000 in
theorem c_X0_timesBy {lay : List zL} {I : zI} {J : zJ} {n0 m l : Nat} (hn : n0 < 9223372036854775808) (hm : m < 1000) (hl : l < 1000) (h0 : 0 < l) : zMet lay MX0_timesBy 1 [.long (lN n0), .long (lN m), .long (lN l)] I J (fun r I' J' => ((r = .long (-9223372036854775808) ∧ 9223372036854775807 < n0 / Nat.gcd l n0 * (m / (l / Nat.gcd l n0))) ∨ (r = .long (lN (n0 / Nat.gcd l n0 * (m / (l / Nat.gcd l n0)))) ∧ n0 / Nat.gcd l n0 * (m / (l / Nat.gcd l n0)) ≤ 9223372036854775807)) ∧ I = I' ∧ J = J') := by
  refine zMet_of (t := MX0_timesBy) (ls := [.long (lN n0), .null, .long (lN m), .null, .long (lN l), .null, .null, .null, .null, .null]) (by decide +kernel) (Nat.le_of_ble_eq_true rfl) rfl ?_
  refine z_lload_n (pc := 0) dX0_timesBy_0 rfl rfl ?_
  refine z_lload (pc := 1) dX0_timesBy_1 rfl ?_
  refine z_callS (pc := 3) (c_X0_commonOf (by omega) (by omega)) dX0_timesBy_3 l_RX0_15 m_MX0_commonOf s_MX0_commonOf rfl (by omega) rfl (Nat.le_of_ble_eq_true rfl) ?_
  rintro _ _ _ (⟨rfl, rfl, rfl⟩)
  have hg0 : 0 < Nat.gcd l n0 := Nat.gcd_pos_of_pos_left _ h0; have hgl : Nat.gcd l n0 ≤ l := Nat.gcd_le_left _ h0; have hq1 : 1 ≤ l / Nat.gcd l n0 := Nat.div_pos hgl hg0; have hq2 : l / Nat.gcd l n0 ≤ l := Nat.div_le_self _ _; have hq3 : n0 / Nat.gcd l n0 ≤ n0 := Nat.div_le_self _ _; have hq4 : m / (l / Nat.gcd l n0) ≤ m := Nat.div_le_self _ _
  try dsimp only [zov, Option.toList, List.cons_append, List.nil_append]
  refine z_lstore (pc := 6) dX0_timesBy_6 (by decide) rfl ?_
  try dsimp only [zst1, zst2, zk]
  refine z_lload (pc := 8) dX0_timesBy_8 rfl ?_
  refine z_lconst (pc := 10) (v := lN 1) dX0_timesBy_10 rfl ?_
  first | refine z_lc_geN (pc := 11) (tgt := 19) (by with_reducible rfl) (by with_reducible rfl) dX0_timesBy_11 rfl dX0_timesBy_12 (by decide) (by omega) (by omega) (fun hb11 => ?_) (fun hb11 => absurd hb11 (by omega)) | refine z_lc_ge (pc := 11) (tgt := 19) dX0_timesBy_11 rfl dX0_timesBy_12 (by decide) (fun hb11 => ?_) (fun hb11 => absurd hb11 (by omega))
  · skip
    refine z_lload (pc := 19) dX0_timesBy_19 rfl ?_
    refine z_lload (pc := 21) dX0_timesBy_21 rfl ?_
    refine z_ldivN (pc := 23) (by with_reducible rfl) (by with_reducible rfl) dX0_timesBy_23 (by omega) (by omega) (by omega) ?_
    refine z_lstore (pc := 24) dX0_timesBy_24 (by decide) rfl ?_
    try dsimp only [zst1, zst2, zk]
    refine z_lload (pc := 26) dX0_timesBy_26 rfl ?_
    refine z_lconst (pc := 28) (v := lN 1) dX0_timesBy_28 rfl ?_
    first | refine z_lc_geN (pc := 29) (tgt := 37) (by with_reducible rfl) (by with_reducible rfl) dX0_timesBy_29 rfl dX0_timesBy_30 (by decide) (by omega) (by omega) (fun hb29 => ?_) (fun hb29 => absurd hb29 (by omega)) | refine z_lc_ge (pc := 29) (tgt := 37) dX0_timesBy_29 rfl dX0_timesBy_30 (by decide) (fun hb29 => ?_) (fun hb29 => absurd hb29 (by omega))
    · skip
      refine z_lload_n (pc := 37) dX0_timesBy_37 rfl rfl ?_
      refine z_lload (pc := 38) dX0_timesBy_38 rfl ?_
      refine z_ldivN (pc := 40) (by with_reducible rfl) (by with_reducible rfl) dX0_timesBy_40 (by omega) (by omega) (by omega) ?_
      refine z_lload_n (pc := 41) dX0_timesBy_41 rfl rfl ?_
      refine z_lload (pc := 42) dX0_timesBy_42 rfl ?_
      refine z_ldivN (pc := 44) (by with_reducible rfl) (by with_reducible rfl) dX0_timesBy_44 (by omega) (by omega) (by omega) ?_
      refine z_callS (pc := 45) (c_X0_product (by omega) (by omega)) dX0_timesBy_45 l_RX0_32 m_MX0_product s_MX0_product rfl (by omega) rfl (Nat.le_of_ble_eq_true rfl) ?_
      rintro _ _ _ ⟨⟨rfl, hp⟩ | ⟨rfl, hp⟩, rfl, rfl⟩
      · skip
        try dsimp only [zov, Option.toList, List.cons_append, List.nil_append]
        refine z_lret (pc := 48) dX0_timesBy_48 rfl ?_
        first | exact ⟨Or.inl ⟨rfl, hp⟩, rfl, rfl⟩ | exact ⟨Or.inr ⟨rfl, hp⟩, rfl, rfl⟩ | fail
      · skip
        try dsimp only [zov, Option.toList, List.cons_append, List.nil_append]
        refine z_lret (pc := 48) dX0_timesBy_48 rfl ?_
        first | exact ⟨Or.inl ⟨rfl, hp⟩, rfl, rfl⟩ | exact ⟨Or.inr ⟨rfl, hp⟩, rfl, rfl⟩ | fail
def kU (lay : List zL) (u : Nat) : Prop := lay[u]? = some (.inl (3, [u + 3, u + 4, 0, 0])) ∧ lay[u + 1]? = some (.inr (.inr (.inl 4))) ∧ lay[u + 2]? = some (.inr (.inr (.inl 4)))
/-- four numbers above and below the line -/
def vU (I : zI) (J : zJ) (u c z : Nat) (A B : Nat → Nat) : Prop := I u 2 = nI c ∧ I u 3 = nI z ∧ (∀ k, k < c → J (u + 1) k = lN (A k)) ∧ ∀ k, k < c → J (u + 2) k = lN (B k)
set_option maxHeartbeats 2000000 in
set_option maxRecDepth 20000 in
theorem c_X3_clear {lay : List zL} {I : zI} {J : zJ} {u : Nat} (hU : kU lay u) : zMet lay MX3_clear 0 [.ref u] I J (fun r I' J' => r = .null ∧ I' = zup (zup I u 2 (nI 0)) u 3 (nI 0) ∧ J = J') := by
  refine zMet_of (t := MX3_clear) (ls := [.ref u]) (by decide +kernel) (Nat.le_of_ble_eq_true rfl) rfl ?_
  obtain ⟨k1, k2, k3⟩ := id hU
  refine z_aload_n (pc := 0) dX3_clear_0 rfl rfl ?_
  refine z_iconst (pc := 1) (v := nI 0) dX3_clear_1 (by decide) ?_
  refine z_putI (pc := 2) dX3_clear_2 f_RX3_18 (by assumption) rfl ?_
  refine z_aload_n (pc := 5) dX3_clear_5 rfl rfl ?_
  refine z_iconst (pc := 6) (v := nI 0) dX3_clear_6 (by decide) ?_
  refine z_putZ (pc := 7) dX3_clear_7 f_RX3_22 (by assumption) rfl (by first | assumption | decide) ?_
  refine z_vret (pc := 10) dX3_clear_10 rfl ?_
  exact ⟨rfl, rfl, rfl⟩
set_option maxHeartbeats 2000000 in
set_option maxRecDepth 20000 in
theorem c_X3_append {lay : List zL} {I : zI} {J : zJ} {u c z x y : Nat} {A B : Nat → Nat} (hU : kU lay u) (hV : vU I J u c z A B) (hc : c < 4) (hx : x < 9223372036854775808) (hy : y < 9223372036854775808) (hA : A c = x) (hB : B c = y) : zMet lay MX3_append 0 [.ref u, .long (lN x), .long (lN y)] I J (fun r I' J' => r = .null ∧ vU I' J' u (c + 1) (if y = 0 then 1 else z) A B ∧ (∀ a, a ≠ u → I' a = I a) ∧ ∀ a, a ≠ u + 1 → a ≠ u + 2 → J' a = J a) := by
  refine zMet_of (t := MX3_append) (ls := [.ref u, .long (lN x), .null, .long (lN y), .null]) (by decide +kernel) (Nat.le_of_ble_eq_true rfl) rfl ?_
  obtain ⟨k1, k2, k3⟩ := id hU
  obtain ⟨v0, v1, v2, v3⟩ := hV
  have hj : ∀ k, k < c + 1 → zup (zup J (u + 1) c (lN x)) (u + 2) c (lN y) (u + 1) k = lN (A k) ∧ zup (zup J (u + 1) c (lN x)) (u + 2) c (lN y) (u + 2) k = lN (B k) := by
    intro k hk
    rw [zup_o (by omega), zup_a, zup_a]
    show (if k = c then _ else J (u + 1) k) = _ ∧ (if k = c then _ else zup J (u + 1) c (lN x) (u + 2) k) = _
    by_cases q : k = c
    · rw [if_pos q, if_pos q, q, hA, hB]; exact ⟨rfl, rfl⟩
    · rw [if_neg q, if_neg q, zup_o (by omega)]; exact ⟨v2 k (by omega), v3 k (by omega)⟩
  refine z_aload_n (pc := 0) dX3_append_0 rfl rfl ?_
  refine z_getIv (pc := 1) dX3_append_1 f_RX3_18 (by assumption) rfl (by first | assumption | rfl) ?_
  refine z_iconst (pc := 4) (v := nI 4) dX3_append_4 (by decide) ?_
  first | refine z_icmp_ltN (pc := 5) (tgt := 9) (by with_reducible rfl) (by with_reducible rfl) dX3_append_5 (by decide) (by omega) (by omega) (fun hb5 => ?_) (fun hb5 => absurd hb5 (by omega)) | refine z_icmp_lt (pc := 5) (tgt := 9) dX3_append_5 (by decide) (fun hb5 => ?_) (fun hb5 => absurd hb5 (by omega))
  · skip
    refine z_aload_n (pc := 9) dX3_append_9 rfl rfl ?_
    refine z_getR (pc := 10) dX3_append_10 f_RX3_11 (by assumption) rfl ?_
    refine z_aload_n (pc := 13) dX3_append_13 rfl rfl ?_
    refine z_getIv (pc := 14) dX3_append_14 f_RX3_18 (by assumption) rfl (by first | assumption | rfl) ?_
    refine z_lload_n (pc := 17) dX3_append_17 rfl rfl ?_
    refine z_lastore (pc := 18) dX3_append_18 (by assumption) (by with_reducible rfl) (by omega) (by decide) ?_
    refine z_aload_n (pc := 19) dX3_append_19 rfl rfl ?_
    refine z_getR (pc := 20) dX3_append_20 f_RX3_15 (by assumption) rfl ?_
    refine z_aload_n (pc := 23) dX3_append_23 rfl rfl ?_
    refine z_getIv (pc := 24) dX3_append_24 f_RX3_18 (by assumption) rfl (by first | assumption | rfl) ?_
    refine z_lload_n (pc := 27) dX3_append_27 rfl rfl ?_
    refine z_lastore (pc := 28) dX3_append_28 (by assumption) (by with_reducible rfl) (by omega) (by decide) ?_
    refine z_aload_n (pc := 29) dX3_append_29 rfl rfl ?_
    refine z_dup (pc := 30) dX3_append_30 rfl ?_
    refine z_getIv (pc := 31) dX3_append_31 f_RX3_18 (by assumption) rfl (by first | assumption | rfl) ?_
    refine z_iconst (pc := 34) (v := nI 1) dX3_append_34 (by decide) ?_
    first | refine z_iaddN (pc := 35) (by with_reducible rfl) (by with_reducible rfl) dX3_append_35 ?_ | refine z_iadd (pc := 35) dX3_append_35 ?_
    refine z_putI (pc := 36) dX3_append_36 f_RX3_18 (by assumption) rfl ?_
    refine z_lload_n (pc := 39) dX3_append_39 rfl rfl ?_
    refine z_lconst (pc := 40) (v := lN 0) dX3_append_40 rfl ?_
    first | refine z_lc_neN (pc := 41) (tgt := 50) (by with_reducible rfl) (by with_reducible rfl) dX3_append_41 rfl dX3_append_42 (by decide) (by omega) (by omega) (fun hb41 => ?_) (fun hb41 => ?_) | refine z_lc_ne (pc := 41) (tgt := 50) dX3_append_41 rfl dX3_append_42 (by decide) (fun hb41 => ?_) (fun hb41 => ?_)
    · skip
      refine z_vret (pc := 50) dX3_append_50 rfl ?_
      first
        | (refine ⟨rfl, ⟨zup_s _ _ _ _, ?_, fun k hk => (hj k hk).1, fun k hk => (hj k hk).2⟩, fun a ha => zup_o ha, fun a p q => by rw [zup_o q, zup_o p]⟩
           rw [if_neg hb41, zup_n _ _ (by omega)]; exact v1)
        | (refine ⟨rfl, ⟨?_, ?_, fun k hk => (hj k hk).1, fun k hk => (hj k hk).2⟩, fun a ha => by rw [zup_o ha, zup_o ha], fun a p q => by rw [zup_o q, zup_o p]⟩
           · rw [zup_n _ _ (by omega)]; exact zup_s _ _ _ _
           · rw [if_pos hb41]; exact zup_s _ _ _ _)
        | fail
    · skip
      refine z_aload_n (pc := 45) dX3_append_45 rfl rfl ?_
      refine z_iconst (pc := 46) (v := nI 1) dX3_append_46 (by decide) ?_
      refine z_putZ (pc := 47) dX3_append_47 f_RX3_22 (by assumption) rfl (by first | assumption | decide) ?_
      refine z_vret (pc := 50) dX3_append_50 rfl ?_
      first
        | (refine ⟨rfl, ⟨zup_s _ _ _ _, ?_, fun k hk => (hj k hk).1, fun k hk => (hj k hk).2⟩, fun a ha => zup_o ha, fun a p q => by rw [zup_o q, zup_o p]⟩
           rw [if_neg hb41, zup_n _ _ (by omega)]; exact v1)
        | (refine ⟨rfl, ⟨?_, ?_, fun k hk => (hj k hk).1, fun k hk => (hj k hk).2⟩, fun a ha => by rw [zup_o ha, zup_o ha], fun a p q => by rw [zup_o q, zup_o p]⟩
           · rw [zup_n _ _ (by omega)]; exact zup_s _ _ _ _
           · rw [if_pos hb41]; exact zup_s _ _ _ _)
        | fail
