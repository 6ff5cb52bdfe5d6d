/-! ===== the model's calls: ratios, orders, ranks ===== -/
set_option maxHeartbeats 2000000 in
set_option maxRecDepth 20000 in
theorem c_X10_ratio1 {lay : List zL} {I : zI} {J : zJ} {n : Nat → Nat} (hM : kM lay) (hW : vW I n) (hT : bT n) {a k : Nat} (ha : a < 4) (hk : k < 9) : zMet lay MX10_ratio 0 [.ref 79, .int (nI a), .int (nI k), .int (nI 1)] I J (fun r I' J' => r = .null ∧ I = I' ∧ J' = zup (zup J 91 a (lN (n (34 + k)))) 92 a (lN (n (43 + k)))) := by
  refine zMet_of (t := MX10_ratio) (ls := [.ref 79, .int (nI a), .int (nI k), .int (nI 1)]) (by decide +kernel) (Nat.le_of_ble_eq_true rfl) rfl ?_
  obtain ⟨mo, m80, m81, m82, m83, m84, m85, m86, m87, m88, m89, m90, m91, m92, m93, m94, m95, m96⟩ := id hM
  have ht := hT k hk
  refine z_aload_n (pc := 0) dX10_ratio_0 rfl rfl ?_
  refine z_getR (pc := 1) dX10_ratio_1 f_RX10_45 (by assumption) rfl ?_
  refine z_iload_n (pc := 4) dX10_ratio_4 rfl rfl ?_
  refine z_aload_n (pc := 5) dX10_ratio_5 rfl rfl ?_
  refine z_getR (pc := 6) dX10_ratio_6 f_RX10_11 (by assumption) rfl ?_
  refine z_iload_n (pc := 9) dX10_ratio_9 rfl rfl ?_
  first | refine z_if_eqN (pc := 10) (tgt := 18) (by with_reducible rfl) dX10_ratio_10 (by decide) (by omega) (fun hb10 => ?_) (fun hb10 => ?_) | refine z_if_eq (pc := 10) (tgt := 18) dX10_ratio_10 (by decide) (fun hb10 => ?_) (fun hb10 => ?_)
  · skip
    refine z_bipush (pc := 18) (v := nI 43) dX10_ratio_18 (by decide) ?_
    refine z_iload_n (pc := 20) dX10_ratio_20 rfl rfl ?_
    first | refine z_iaddN (pc := 21) (by with_reducible rfl) (by with_reducible rfl) dX10_ratio_21 ?_ | refine z_iadd (pc := 21) dX10_ratio_21 ?_
    refine z_ialoadv (pc := 22) dX10_ratio_22 (by assumption) (by with_reducible rfl) (by omega) (by decide) (by first | assumption | exact hW _ (by omega) | rfl) ?_
    first | refine z_i2lN (pc := 23) (by with_reducible rfl) dX10_ratio_23 (by omega) ?_ | refine z_i2l (pc := 23) dX10_ratio_23 rfl ?_
    refine z_lastore (pc := 24) dX10_ratio_24 (by assumption) (by with_reducible rfl) (by omega) (by decide) ?_
    refine z_aload_n (pc := 25) dX10_ratio_25 rfl rfl ?_
    refine z_getR (pc := 26) dX10_ratio_26 f_RX10_49 (by assumption) rfl ?_
    refine z_iload_n (pc := 29) dX10_ratio_29 rfl rfl ?_
    refine z_aload_n (pc := 30) dX10_ratio_30 rfl rfl ?_
    refine z_getR (pc := 31) dX10_ratio_31 f_RX10_11 (by assumption) rfl ?_
    refine z_iload_n (pc := 34) dX10_ratio_34 rfl rfl ?_
    first | refine z_if_eqN (pc := 35) (tgt := 43) (by with_reducible rfl) dX10_ratio_35 (by decide) (by omega) (fun hb35 => ?_) (fun hb35 => ?_) | refine z_if_eq (pc := 35) (tgt := 43) dX10_ratio_35 (by decide) (fun hb35 => ?_) (fun hb35 => ?_)
    · skip
      refine z_bipush (pc := 43) (v := nI 34) dX10_ratio_43 (by decide) ?_
      refine z_iload_n (pc := 45) dX10_ratio_45 rfl rfl ?_
      first | refine z_iaddN (pc := 46) (by with_reducible rfl) (by with_reducible rfl) dX10_ratio_46 ?_ | refine z_iadd (pc := 46) dX10_ratio_46 ?_
      refine z_ialoadv (pc := 47) dX10_ratio_47 (by assumption) (by with_reducible rfl) (by omega) (by decide) (by first | assumption | exact hW _ (by omega) | rfl) ?_
      first | refine z_i2lN (pc := 48) (by with_reducible rfl) dX10_ratio_48 (by omega) ?_ | refine z_i2l (pc := 48) dX10_ratio_48 rfl ?_
      refine z_lastore (pc := 49) dX10_ratio_49 (by assumption) (by with_reducible rfl) (by omega) (by decide) ?_
      refine z_vret (pc := 50) dX10_ratio_50 rfl ?_
      first
        | exact ⟨rfl, rfl, rfl⟩
        | exact absurd hb10 (by decide)
        | exact absurd hb35 (by decide)
        | fail
    · skip
      refine z_bipush (pc := 38) (v := nI 43) dX10_ratio_38 (by decide) ?_
      refine z_goto (pc := 40) (tgt := 45) dX10_ratio_40 (by decide) ?_
      refine z_iload_n (pc := 45) dX10_ratio_45 rfl rfl ?_
      first | refine z_iaddN (pc := 46) (by with_reducible rfl) (by with_reducible rfl) dX10_ratio_46 ?_ | refine z_iadd (pc := 46) dX10_ratio_46 ?_
      refine z_ialoadv (pc := 47) dX10_ratio_47 (by assumption) (by with_reducible rfl) (by omega) (by decide) (by first | assumption | exact hW _ (by omega) | rfl) ?_
      first | refine z_i2lN (pc := 48) (by with_reducible rfl) dX10_ratio_48 (by omega) ?_ | refine z_i2l (pc := 48) dX10_ratio_48 rfl ?_
      refine z_lastore (pc := 49) dX10_ratio_49 (by assumption) (by with_reducible rfl) (by omega) (by decide) ?_
      refine z_vret (pc := 50) dX10_ratio_50 rfl ?_
      first
        | exact ⟨rfl, rfl, rfl⟩
        | exact absurd hb10 (by decide)
        | exact absurd hb35 (by decide)
        | fail
  · skip
    refine z_bipush (pc := 13) (v := nI 34) dX10_ratio_13 (by decide) ?_
    refine z_goto (pc := 15) (tgt := 20) dX10_ratio_15 (by decide) ?_
    refine z_iload_n (pc := 20) dX10_ratio_20 rfl rfl ?_
    first | refine z_iaddN (pc := 21) (by with_reducible rfl) (by with_reducible rfl) dX10_ratio_21 ?_ | refine z_iadd (pc := 21) dX10_ratio_21 ?_
    refine z_ialoadv (pc := 22) dX10_ratio_22 (by assumption) (by with_reducible rfl) (by omega) (by decide) (by first | assumption | exact hW _ (by omega) | rfl) ?_
    first | refine z_i2lN (pc := 23) (by with_reducible rfl) dX10_ratio_23 (by omega) ?_ | refine z_i2l (pc := 23) dX10_ratio_23 rfl ?_
    refine z_lastore (pc := 24) dX10_ratio_24 (by assumption) (by with_reducible rfl) (by omega) (by decide) ?_
    refine z_aload_n (pc := 25) dX10_ratio_25 rfl rfl ?_
    refine z_getR (pc := 26) dX10_ratio_26 f_RX10_49 (by assumption) rfl ?_
    refine z_iload_n (pc := 29) dX10_ratio_29 rfl rfl ?_
    refine z_aload_n (pc := 30) dX10_ratio_30 rfl rfl ?_
    refine z_getR (pc := 31) dX10_ratio_31 f_RX10_11 (by assumption) rfl ?_
    refine z_iload_n (pc := 34) dX10_ratio_34 rfl rfl ?_
    first | refine z_if_eqN (pc := 35) (tgt := 43) (by with_reducible rfl) dX10_ratio_35 (by decide) (by omega) (fun hb35 => ?_) (fun hb35 => ?_) | refine z_if_eq (pc := 35) (tgt := 43) dX10_ratio_35 (by decide) (fun hb35 => ?_) (fun hb35 => ?_)
    · skip
      refine z_bipush (pc := 43) (v := nI 34) dX10_ratio_43 (by decide) ?_
      refine z_iload_n (pc := 45) dX10_ratio_45 rfl rfl ?_
      first | refine z_iaddN (pc := 46) (by with_reducible rfl) (by with_reducible rfl) dX10_ratio_46 ?_ | refine z_iadd (pc := 46) dX10_ratio_46 ?_
      refine z_ialoadv (pc := 47) dX10_ratio_47 (by assumption) (by with_reducible rfl) (by omega) (by decide) (by first | assumption | exact hW _ (by omega) | rfl) ?_
      first | refine z_i2lN (pc := 48) (by with_reducible rfl) dX10_ratio_48 (by omega) ?_ | refine z_i2l (pc := 48) dX10_ratio_48 rfl ?_
      refine z_lastore (pc := 49) dX10_ratio_49 (by assumption) (by with_reducible rfl) (by omega) (by decide) ?_
      refine z_vret (pc := 50) dX10_ratio_50 rfl ?_
      first
        | exact ⟨rfl, rfl, rfl⟩
        | exact absurd hb10 (by decide)
        | exact absurd hb35 (by decide)
        | fail
    · skip
      refine z_bipush (pc := 38) (v := nI 43) dX10_ratio_38 (by decide) ?_
      refine z_goto (pc := 40) (tgt := 45) dX10_ratio_40 (by decide) ?_
      refine z_iload_n (pc := 45) dX10_ratio_45 rfl rfl ?_
      first | refine z_iaddN (pc := 46) (by with_reducible rfl) (by with_reducible rfl) dX10_ratio_46 ?_ | refine z_iadd (pc := 46) dX10_ratio_46 ?_
      refine z_ialoadv (pc := 47) dX10_ratio_47 (by assumption) (by with_reducible rfl) (by omega) (by decide) (by first | assumption | exact hW _ (by omega) | rfl) ?_
      first | refine z_i2lN (pc := 48) (by with_reducible rfl) dX10_ratio_48 (by omega) ?_ | refine z_i2l (pc := 48) dX10_ratio_48 rfl ?_
      refine z_lastore (pc := 49) dX10_ratio_49 (by assumption) (by with_reducible rfl) (by omega) (by decide) ?_
      refine z_vret (pc := 50) dX10_ratio_50 rfl ?_
      first
        | exact ⟨rfl, rfl, rfl⟩
        | exact absurd hb10 (by decide)
        | exact absurd hb35 (by decide)
        | fail
set_option maxHeartbeats 2000000 in
set_option maxRecDepth 20000 in
theorem c_X10_ratio0 {lay : List zL} {I : zI} {J : zJ} {n : Nat → Nat} (hM : kM lay) (hW : vW I n) (hT : bT n) {a k : Nat} (ha : a < 4) (hk : k < 9) : zMet lay MX10_ratio 0 [.ref 79, .int (nI a), .int (nI k), .int (nI 0)] I J (fun r I' J' => r = .null ∧ I = I' ∧ J' = zup (zup J 91 a (lN (n (43 + k)))) 92 a (lN (n (34 + k)))) := by
  refine zMet_of (t := MX10_ratio) (ls := [.ref 79, .int (nI a), .int (nI k), .int (nI 0)]) (by decide +kernel) (Nat.le_of_ble_eq_true rfl) rfl ?_
  obtain ⟨mo, m80, m81, m82, m83, m84, m85, m86, m87, m88, m89, m90, m91, m92, m93, m94, m95, m96⟩ := id hM
  have ht := hT k hk
  refine z_aload_n (pc := 0) dX10_ratio_0 rfl rfl ?_
  refine z_getR (pc := 1) dX10_ratio_1 f_RX10_45 (by assumption) rfl ?_
  refine z_iload_n (pc := 4) dX10_ratio_4 rfl rfl ?_
  refine z_aload_n (pc := 5) dX10_ratio_5 rfl rfl ?_
  refine z_getR (pc := 6) dX10_ratio_6 f_RX10_11 (by assumption) rfl ?_
  refine z_iload_n (pc := 9) dX10_ratio_9 rfl rfl ?_
  first | refine z_if_eqN (pc := 10) (tgt := 18) (by with_reducible rfl) dX10_ratio_10 (by decide) (by omega) (fun hb10 => ?_) (fun hb10 => ?_) | refine z_if_eq (pc := 10) (tgt := 18) dX10_ratio_10 (by decide) (fun hb10 => ?_) (fun hb10 => ?_)
  · skip
    refine z_bipush (pc := 18) (v := nI 43) dX10_ratio_18 (by decide) ?_
    refine z_iload_n (pc := 20) dX10_ratio_20 rfl rfl ?_
    first | refine z_iaddN (pc := 21) (by with_reducible rfl) (by with_reducible rfl) dX10_ratio_21 ?_ | refine z_iadd (pc := 21) dX10_ratio_21 ?_
    refine z_ialoadv (pc := 22) dX10_ratio_22 (by assumption) (by with_reducible rfl) (by omega) (by decide) (by first | assumption | exact hW _ (by omega) | rfl) ?_
    first | refine z_i2lN (pc := 23) (by with_reducible rfl) dX10_ratio_23 (by omega) ?_ | refine z_i2l (pc := 23) dX10_ratio_23 rfl ?_
    refine z_lastore (pc := 24) dX10_ratio_24 (by assumption) (by with_reducible rfl) (by omega) (by decide) ?_
    refine z_aload_n (pc := 25) dX10_ratio_25 rfl rfl ?_
    refine z_getR (pc := 26) dX10_ratio_26 f_RX10_49 (by assumption) rfl ?_
    refine z_iload_n (pc := 29) dX10_ratio_29 rfl rfl ?_
    refine z_aload_n (pc := 30) dX10_ratio_30 rfl rfl ?_
    refine z_getR (pc := 31) dX10_ratio_31 f_RX10_11 (by assumption) rfl ?_
    refine z_iload_n (pc := 34) dX10_ratio_34 rfl rfl ?_
    first | refine z_if_eqN (pc := 35) (tgt := 43) (by with_reducible rfl) dX10_ratio_35 (by decide) (by omega) (fun hb35 => ?_) (fun hb35 => ?_) | refine z_if_eq (pc := 35) (tgt := 43) dX10_ratio_35 (by decide) (fun hb35 => ?_) (fun hb35 => ?_)
    · skip
      refine z_bipush (pc := 43) (v := nI 34) dX10_ratio_43 (by decide) ?_
      refine z_iload_n (pc := 45) dX10_ratio_45 rfl rfl ?_
      first | refine z_iaddN (pc := 46) (by with_reducible rfl) (by with_reducible rfl) dX10_ratio_46 ?_ | refine z_iadd (pc := 46) dX10_ratio_46 ?_
      refine z_ialoadv (pc := 47) dX10_ratio_47 (by assumption) (by with_reducible rfl) (by omega) (by decide) (by first | assumption | exact hW _ (by omega) | rfl) ?_
      first | refine z_i2lN (pc := 48) (by with_reducible rfl) dX10_ratio_48 (by omega) ?_ | refine z_i2l (pc := 48) dX10_ratio_48 rfl ?_
      refine z_lastore (pc := 49) dX10_ratio_49 (by assumption) (by with_reducible rfl) (by omega) (by decide) ?_
      refine z_vret (pc := 50) dX10_ratio_50 rfl ?_
      first
        | exact ⟨rfl, rfl, rfl⟩
        | exact absurd rfl hb10
        | exact absurd rfl hb35
        | fail
    · skip
      refine z_bipush (pc := 38) (v := nI 43) dX10_ratio_38 (by decide) ?_
      refine z_goto (pc := 40) (tgt := 45) dX10_ratio_40 (by decide) ?_
      refine z_iload_n (pc := 45) dX10_ratio_45 rfl rfl ?_
      first | refine z_iaddN (pc := 46) (by with_reducible rfl) (by with_reducible rfl) dX10_ratio_46 ?_ | refine z_iadd (pc := 46) dX10_ratio_46 ?_
      refine z_ialoadv (pc := 47) dX10_ratio_47 (by assumption) (by with_reducible rfl) (by omega) (by decide) (by first | assumption | exact hW _ (by omega) | rfl) ?_
      first | refine z_i2lN (pc := 48) (by with_reducible rfl) dX10_ratio_48 (by omega) ?_ | refine z_i2l (pc := 48) dX10_ratio_48 rfl ?_
      refine z_lastore (pc := 49) dX10_ratio_49 (by assumption) (by with_reducible rfl) (by omega) (by decide) ?_
      refine z_vret (pc := 50) dX10_ratio_50 rfl ?_
      first
        | exact ⟨rfl, rfl, rfl⟩
        | exact absurd rfl hb10
        | exact absurd rfl hb35
        | fail
  · skip
    refine z_bipush (pc := 13) (v := nI 34) dX10_ratio_13 (by decide) ?_
    refine z_goto (pc := 15) (tgt := 20) dX10_ratio_15 (by decide) ?_
    refine z_iload_n (pc := 20) dX10_ratio_20 rfl rfl ?_
    first | refine z_iaddN (pc := 21) (by with_reducible rfl) (by with_reducible rfl) dX10_ratio_21 ?_ | refine z_iadd (pc := 21) dX10_ratio_21 ?_
    refine z_ialoadv (pc := 22) dX10_ratio_22 (by assumption) (by with_reducible rfl) (by omega) (by decide) (by first | assumption | exact hW _ (by omega) | rfl) ?_
    first | refine z_i2lN (pc := 23) (by with_reducible rfl) dX10_ratio_23 (by omega) ?_ | refine z_i2l (pc := 23) dX10_ratio_23 rfl ?_
    refine z_lastore (pc := 24) dX10_ratio_24 (by assumption) (by with_reducible rfl) (by omega) (by decide) ?_
    refine z_aload_n (pc := 25) dX10_ratio_25 rfl rfl ?_
    refine z_getR (pc := 26) dX10_ratio_26 f_RX10_49 (by assumption) rfl ?_
    refine z_iload_n (pc := 29) dX10_ratio_29 rfl rfl ?_
    refine z_aload_n (pc := 30) dX10_ratio_30 rfl rfl ?_
    refine z_getR (pc := 31) dX10_ratio_31 f_RX10_11 (by assumption) rfl ?_
    refine z_iload_n (pc := 34) dX10_ratio_34 rfl rfl ?_
    first | refine z_if_eqN (pc := 35) (tgt := 43) (by with_reducible rfl) dX10_ratio_35 (by decide) (by omega) (fun hb35 => ?_) (fun hb35 => ?_) | refine z_if_eq (pc := 35) (tgt := 43) dX10_ratio_35 (by decide) (fun hb35 => ?_) (fun hb35 => ?_)
    · skip
      refine z_bipush (pc := 43) (v := nI 34) dX10_ratio_43 (by decide) ?_
      refine z_iload_n (pc := 45) dX10_ratio_45 rfl rfl ?_
      first | refine z_iaddN (pc := 46) (by with_reducible rfl) (by with_reducible rfl) dX10_ratio_46 ?_ | refine z_iadd (pc := 46) dX10_ratio_46 ?_
      refine z_ialoadv (pc := 47) dX10_ratio_47 (by assumption) (by with_reducible rfl) (by omega) (by decide) (by first | assumption | exact hW _ (by omega) | rfl) ?_
      first | refine z_i2lN (pc := 48) (by with_reducible rfl) dX10_ratio_48 (by omega) ?_ | refine z_i2l (pc := 48) dX10_ratio_48 rfl ?_
      refine z_lastore (pc := 49) dX10_ratio_49 (by assumption) (by with_reducible rfl) (by omega) (by decide) ?_
      refine z_vret (pc := 50) dX10_ratio_50 rfl ?_
      first
        | exact ⟨rfl, rfl, rfl⟩
        | exact absurd rfl hb10
        | exact absurd rfl hb35
        | fail
    · skip
      refine z_bipush (pc := 38) (v := nI 43) dX10_ratio_38 (by decide) ?_
      refine z_goto (pc := 40) (tgt := 45) dX10_ratio_40 (by decide) ?_
      refine z_iload_n (pc := 45) dX10_ratio_45 rfl rfl ?_
      first | refine z_iaddN (pc := 46) (by with_reducible rfl) (by with_reducible rfl) dX10_ratio_46 ?_ | refine z_iadd (pc := 46) dX10_ratio_46 ?_
      refine z_ialoadv (pc := 47) dX10_ratio_47 (by assumption) (by with_reducible rfl) (by omega) (by decide) (by first | assumption | exact hW _ (by omega) | rfl) ?_
      first | refine z_i2lN (pc := 48) (by with_reducible rfl) dX10_ratio_48 (by omega) ?_ | refine z_i2l (pc := 48) dX10_ratio_48 rfl ?_
      refine z_lastore (pc := 49) dX10_ratio_49 (by assumption) (by with_reducible rfl) (by omega) (by decide) ?_
      refine z_vret (pc := 50) dX10_ratio_50 rfl ?_
      first
        | exact ⟨rfl, rfl, rfl⟩
        | exact absurd rfl hb10
        | exact absurd rfl hb35
        | fail
theorem zdv_le {x v : Nat} (hx : 1 ≤ x) : v ≤ 9223372036854775807 / x ↔ x * v ≤ 9223372036854775807 := by
  rw [Nat.le_div_iff_mul_le hx, Nat.mul_comm]
theorem zpr_n {A : Nat → Nat} {m i x : Nat} (hx : 1 ≤ x) (h : 9223372036854775807 / x < A i) : zpl4 (zpr A (m + 1) i x) = -9223372036854775808 := by
  rw [zpr, if_neg (fun q => absurd ((zdv_le hx).mpr q) (by omega))]
  rfl
theorem zpr_y {A : Nat → Nat} {m i x : Nat} (hx : 1 ≤ x) (h : ¬ 9223372036854775807 / x < A i) : zpr A (m + 1) i x = zpr A m (i + 1) (x * A i) := by
  rw [zpr, if_pos ((zdv_le hx).mp (by omega))]
set_option maxHeartbeats 2000000 in
set_option maxRecDepth 20000 in
theorem l_X10_product {lay : List zL} {Q : Value → zI → zJ → Prop} {d b : Nat} {I : zI} {J : zJ} {A : Nat → Nat} (hl : lay[b]? = some (.inr (.inr (.inl 4)))) (hA : ∀ k, k < 4 → J b k = lN (A k)) (hp : ∀ k, k < 4 → 1 ≤ A k ∧ A k ≤ 999999) : ∀ (m i x : Nat) (w : Value), i + m = 4 → 1 ≤ x → x ≤ 9223372036854775807 → Q (.long (zpl4 (zpr A m i x))) I J → Z lay MX10_product d 11 [.ref b, .long (lN x), .null, .ref b, .int (nI 4), .int (nI i), w, .null] [] I J Q := by
  intro m
  induction m with
  | zero =>
    intro i x w hi hx1 hx2 hq
    obtain rfl : i = 4 := (by omega)
    refine z_iload (pc := 11) dX10_product_11 rfl ?_
    refine z_iload (pc := 13) dX10_product_13 rfl ?_
    first | refine z_icmp_geN (pc := 15) (tgt := 50) (by with_reducible rfl) (by with_reducible rfl) dX10_product_15 (by decide) (by omega) (by omega) (fun hb15 => ?_) (fun hb15 => absurd (Nat.le_refl 4) hb15) | refine z_icmp_ge (pc := 15) (tgt := 50) dX10_product_15 (by decide) (fun hb15 => ?_) (fun hb15 => absurd (Nat.le_refl 4) hb15)
    · skip
      refine z_lload_n (pc := 50) dX10_product_50 rfl rfl ?_
      refine z_lret (pc := 51) dX10_product_51 rfl ?_
      exact hq
  | succ m ih =>
    intro i x w hi hx1 hx2 hq
    have hpi := hp i (by omega)
    have hAi := hA i (by omega)
    have hdx := Nat.div_le_self 9223372036854775807 x
    refine z_iload (pc := 11) dX10_product_11 rfl ?_
    refine z_iload (pc := 13) dX10_product_13 rfl ?_
    first | refine z_icmp_geN (pc := 15) (tgt := 50) (by with_reducible rfl) (by with_reducible rfl) dX10_product_15 (by decide) (by omega) (by omega) (fun hb15 => absurd hb15 (by omega)) (fun hb15 => ?_) | refine z_icmp_ge (pc := 15) (tgt := 50) dX10_product_15 (by decide) (fun hb15 => absurd hb15 (by omega)) (fun hb15 => ?_)
    · skip
      refine z_aload_n (pc := 18) dX10_product_18 rfl rfl ?_
      refine z_iload (pc := 19) dX10_product_19 rfl ?_
      refine z_laloadv (pc := 21) dX10_product_21 (by assumption) (by with_reducible rfl) (by omega) (by decide) (by first | assumption | exact hAi | rfl) ?_
      refine z_lstore (pc := 22) dX10_product_22 (by decide) rfl ?_
      try dsimp only [zst1, zst2, zk]
      refine z_lload (pc := 24) dX10_product_24 rfl ?_
      refine z_ldc2 (pc := 26) (v := lN 9223372036854775807) dX10_product_26 q_RX10_256 ?_
      refine z_lload_n (pc := 29) dX10_product_29 rfl rfl ?_
      refine z_ldivN (pc := 30) (by with_reducible rfl) (by with_reducible rfl) dX10_product_30 (by omega) (by omega) (by omega) ?_
      first | refine z_lc_leN (pc := 31) (tgt := 39) (by with_reducible rfl) (by with_reducible rfl) dX10_product_31 rfl dX10_product_32 (by decide) (by omega) (by omega) (fun hb31 => ?_) (fun hb31 => ?_) | refine z_lc_le (pc := 31) (tgt := 39) dX10_product_31 rfl dX10_product_32 (by decide) (fun hb31 => ?_) (fun hb31 => ?_)
      · skip
        refine z_lload_n (pc := 39) dX10_product_39 rfl rfl ?_
        refine z_lload (pc := 40) dX10_product_40 rfl ?_
        first | refine z_lmulN (pc := 42) (by with_reducible rfl) (by with_reducible rfl) dX10_product_42 ?_ | refine z_lmul (pc := 42) dX10_product_42 ?_
        refine z_lstore_n (pc := 43) dX10_product_43 rfl (by decide) rfl ?_
        try dsimp only [zst1, zst2, zk]
        first | refine z_iincN (pc := 44) (c := 1) dX10_product_44 rfl (by with_reducible rfl) (by decide) (by decide) rfl ?_ | refine z_iinc (pc := 44) dX10_product_44 rfl rfl (by decide) rfl ?_
        try dsimp only [zst1, zst2, zk]
        refine z_goto (pc := 47) (tgt := 11) dX10_product_47 (by decide) ?_
        have hdd : ¬ 9223372036854775807 / x < A i := (by omega)
        rw [zpr_y hx1 hdd] at hq
        have hmul : 0 < x * A i := Nat.mul_pos hx1 hpi.1
        exact ih (i + 1) (x * A i) _ (by omega) hmul ((zdv_le hx1).mp (by omega)) hq
      · skip
        refine z_ldc2 (pc := 35) (v := -9223372036854775808) dX10_product_35 q_RX10_190 ?_
        refine z_lret (pc := 38) dX10_product_38 rfl ?_
        rw [zpr_n hx1 (by omega)] at hq
        exact hq
set_option maxHeartbeats 2000000 in
set_option maxRecDepth 20000 in
theorem c_X10_product {lay : List zL} {I : zI} {J : zJ} {b : Nat} {A : Nat → Nat} (hl : lay[b]? = some (.inr (.inr (.inl 4)))) (hA : ∀ k, k < 4 → J b k = lN (A k)) (hp : ∀ k, k < 4 → 1 ≤ A k ∧ A k ≤ 999999) : zMet lay MX10_product 0 [.ref b] I J (fun r I' J' => r = .long (zpl4 (zpr A 4 0 1)) ∧ I = I' ∧ J = J') := by
  refine zMet_of (t := MX10_product) (ls := [.ref b, .null, .null, .null, .null, .null, .null, .null]) (by decide +kernel) (Nat.le_of_ble_eq_true rfl) rfl ?_
  refine z_lconst (pc := 0) (v := lN 1) dX10_product_0 rfl ?_
  refine z_lstore_n (pc := 1) dX10_product_1 rfl (by decide) rfl ?_
  try dsimp only [zst1, zst2, zk]
  refine z_aload_n (pc := 2) dX10_product_2 rfl rfl ?_
  refine z_astore_n (pc := 3) dX10_product_3 rfl (by decide) rfl ?_
  try dsimp only [zst1, zst2, zk]
  refine z_aload_n (pc := 4) dX10_product_4 rfl rfl ?_
  first | refine z_alenI (pc := 5) dX10_product_5 (by assumption) ?_ | refine z_alenJ (pc := 5) dX10_product_5 (by assumption) ?_
  refine z_istore (pc := 6) dX10_product_6 (by decide) rfl ?_
  try dsimp only [zst1, zst2, zk]
  refine z_iconst (pc := 8) (v := nI 0) dX10_product_8 (by decide) ?_
  refine z_istore (pc := 9) dX10_product_9 (by decide) rfl ?_
  try dsimp only [zst1, zst2, zk]
  exact l_X10_product hl hA hp 4 0 1 _ rfl (Nat.le_refl 1) (Nat.le_of_ble_eq_true rfl) ⟨rfl, rfl, rfl⟩
theorem zcan1_0 {i j a : Nat} {p : (Nat → Nat) × (Nat → Nat)} (h : p.1 a = 0) : (zcan1 i j p).1 a = 0 := by
  show (if a = i then _ else p.1 a) = 0
  by_cases q : a = i
  · rw [if_pos q, ← q, h, Nat.zero_div]
  · rw [if_neg q]; exact h
theorem zcan1_1 {i j b : Nat} {p : (Nat → Nat) × (Nat → Nat)} (h : p.2 b = 1) : (zcan1 i j p).2 b = 1 := by
  show (if b = j then _ else p.2 b) = 1
  by_cases q : b = j
  · rw [if_pos q, ← q, h, Nat.gcd_one_left]
  · rw [if_neg q]; exact h
theorem zcan1_z {i j : Nat} {p : (Nat → Nat) × (Nat → Nat)} (h : p.1 i = 0) (h2 : 1 ≤ p.2 j) : (zcan1 i j p).2 j = 1 := by
  show (if j = j then _ else p.2 j) = 1
  rw [if_pos rfl, h, Nat.gcd_zero_right, Nat.div_self h2]
theorem zcan1_p {i j a : Nat} {p : (Nat → Nat) × (Nat → Nat)} (h : 1 ≤ p.1 a) : 1 ≤ (zcan1 i j p).1 a := by
  show 1 ≤ (if a = i then _ else p.1 a)
  by_cases q : a = i
  · subst q
    rw [if_pos rfl]
    exact Nat.div_pos (Nat.gcd_le_right _ h) (Nat.gcd_pos_of_pos_right _ h)
  · rw [if_neg q]; exact h
theorem zcanf_0 {a : Nat} : ∀ (m k : Nat) (p : (Nat → Nat) × (Nat → Nat)), p.1 a = 0 → (zcanf m k p).1 a = 0
  | 0, _, _, h => h
  | m + 1, k, p, h => zcanf_0 m (k + 1) _ (zcan1_0 h)
theorem zcanf_1 {b : Nat} : ∀ (m k : Nat) (p : (Nat → Nat) × (Nat → Nat)), p.2 b = 1 → (zcanf m k p).2 b = 1
  | 0, _, _, h => h
  | m + 1, k, p, h => zcanf_1 m (k + 1) _ (zcan1_1 h)
theorem zcanf_p {a : Nat} : ∀ (m k : Nat) (p : (Nat → Nat) × (Nat → Nat)), 1 ≤ p.1 a → 1 ≤ (zcanf m k p).1 a
  | 0, _, _, h => h
  | m + 1, k, p, h => zcanf_p m (k + 1) _ (zcan1_p h)
theorem zcanf_z {i j : Nat} (hi : i < 4) (hj : j < 4) : ∀ (m k : Nat) (p : (Nat → Nat) × (Nat → Nat)), zcB p → k + m ≤ 16 → p.1 i = 0 → k ≤ 4 * i + j → 4 * i + j < k + m → (zcanf m k p).2 j = 1
  | 0, _, _, _, _, _, _, _ => by omega
  | m + 1, k, p, hB, hk, h, h1, h2 => by
    by_cases e : k = 4 * i + j
    · refine zcanf_1 m (k + 1) _ ?_
      rw [show k / 4 = i by omega, show k % 4 = j by omega]
      exact zcan1_z h (hB.2 j hj).1
    · exact zcanf_z hi hj m (k + 1) _ (zcan1_B hB (by omega) (Nat.mod_lt _ (by decide))) (by omega) (zcan1_0 h) (by omega) (by omega)
theorem zpr_1 {A : Nat → Nat} (h : ∀ k, k < 4 → A k = 1) : zpr A 4 0 1 = some 1 := by
  have h0 := h 0 (by decide)
  have h1 := h 1 (by decide)
  have h2 := h 2 (by decide)
  have h3 := h 3 (by decide)
  simp [zpr, h0, h1, h2, h3]
theorem zpr_0 {A : Nat → Nat} (h : ∀ k, k < 4 → A k ≤ 999999) {i : Nat} (hi : i = 0 ∨ i = 2) (h0 : A i = 0) : zpr A 4 0 1 = some 0 := by
  have l0 := h 0 (by decide)
  have l1 := h 1 (by decide)
  have m1 : A 0 * A 1 ≤ 999999 * 999999 := Nat.mul_le_mul l0 l1
  rcases hi with rfl | rfl
  · simp [zpr, h0]
  · show (if 1 * A 0 ≤ 9223372036854775807 then (if 1 * A 0 * A 1 ≤ 9223372036854775807 then (if 1 * A 0 * A 1 * A 2 ≤ 9223372036854775807 then (if 1 * A 0 * A 1 * A 2 * A 3 ≤ 9223372036854775807 then some (1 * A 0 * A 1 * A 2 * A 3) else none) else none) else none) else none) = some 0
    rw [h0, Nat.mul_zero, Nat.zero_mul, Nat.one_mul, if_pos (by omega), if_pos (by omega), if_pos (by omega), if_pos (by omega)]
theorem zcro_z {p : (Nat → Nat) × (Nat → Nat)} {q i : Nat} (hB : zcB p) (hi : i = 0 ∨ i = 2) (h : p.1 i = 0) (hq : q ≤ 1) : zcro 0 p q = lN q := by
  have hB2 := zcanf_B 16 0 p (Nat.le_refl 16) hB
  have e1 := zpr_0 hB2.1 hi (zcanf_0 16 0 p h)
  have e2 : zpr (zcanf 16 0 p).2 4 0 1 = some 1 := zpr_1 (fun k hk => zcanf_z (i := i) (j := k) (by omega) hk 16 0 p hB (Nat.le_refl 16) h (by omega) (by omega))
  rw [zcro, if_pos rfl, e1, e2]
  rcases (show q = 0 ∨ q = 1 by omega) with rfl | rfl <;> rfl
theorem zhU4 {J : zJ} {A B : Nat → Nat} : zhU J 90 (A, B) (zup (zup (zup (zup (zup (zup (zup (zup J 91 0 (lN (A 0))) 92 0 (lN (B 0))) 91 1 (lN (A 1))) 92 1 (lN (B 1))) 91 2 (lN (A 2))) 92 2 (lN (B 2))) 91 3 (lN (A 3))) 92 3 (lN (B 3))) := by
  refine ⟨fun k hk => ?_, fun k hk => ?_, fun x h1 h2 => ?_⟩
  · rcases (show k = 0 ∨ k = 1 ∨ k = 2 ∨ k = 3 by omega) with rfl | rfl | rfl | rfl <;> simp [zup]
  · rcases (show k = 0 ∨ k = 1 ∨ k = 2 ∨ k = 3 by omega) with rfl | rfl | rfl | rfl <;> simp [zup]
  · have q1 : x ≠ 91 := h1
    have q2 : x ≠ 92 := h2
    rw [zup_o q2, zup_o q1, zup_o q2, zup_o q1, zup_o q2, zup_o q1, zup_o q2, zup_o q1]
theorem zhU_m {J J' : zJ} {p : (Nat → Nat) × (Nat → Nat)} (h : zhU J 90 p J') : zmJ J J' := fun x y q => by rw [h.2.2 x (by omega) (by omega)]
set_option maxHeartbeats 2000000 in
set_option maxRecDepth 20000 in
theorem l_X10_cross {lay : List zL} {Q : Value → zI → zJ → Prop} {d q : Nat} {i j k l : Int32} {I : zI} {J0 : zJ} (hM : kM lay) : ∀ (m a b : Nat) (p : (Nat → Nat) × (Nat → Nat)) (J : zJ) (w : Value), 5 * (4 - a) + (4 - b) < m → a < 4 → b ≤ 4 → zcB p → zhU J0 90 p J → (∀ J' w', zhU J0 90 (zcanf (16 - (4 * a + b)) (4 * a + b) p) J' → Z lay MX10_cross (d + 1) 209 [.ref 79, .int i, .int k, .int j, .int l, .int (nI q), .int (nI 4), .int (nI 4), w', .null] [] I J' Q) → Z lay MX10_cross (d + 1) 148 [.ref 79, .int i, .int k, .int j, .int l, .int (nI q), .int (nI a), .int (nI b), w, .null] [] I J Q := by
  intro m
  induction m with
  | zero => intro a b p J w h; exact absurd h (by omega)
  | succ m ih =>
    intro a b p J w hm ha hb hB hU K
    have hU1 := hU.1
    have hU2 := hU.2.1
    obtain ⟨mo, m80, m81, m82, m83, m84, m85, m86, m87, m88, m89, m90, m91, m92, m93, m94, m95, m96⟩ := id hM
    refine z_iload (pc := 148) dX10_cross_148 rfl ?_
    refine z_iconst (pc := 150) (v := nI 4) dX10_cross_150 (by decide) ?_
    first | refine z_icmp_geN (pc := 151) (tgt := 203) (by with_reducible rfl) (by with_reducible rfl) dX10_cross_151 (by decide) (by omega) (by omega) (fun hb151 => ?_) (fun hb151 => ?_) | refine z_icmp_ge (pc := 151) (tgt := 203) dX10_cross_151 (by decide) (fun hb151 => ?_) (fun hb151 => ?_)
    · skip
      first | refine z_iincN (pc := 203) (c := 1) dX10_cross_203 rfl (by with_reducible rfl) (by decide) (by decide) rfl ?_ | refine z_iinc (pc := 203) dX10_cross_203 rfl rfl (by decide) rfl ?_
      try dsimp only [zst1, zst2, zk]
      refine z_goto (pc := 206) (tgt := 139) dX10_cross_206 (by decide) ?_
      refine z_iload (pc := 139) dX10_cross_139 rfl ?_
      refine z_iconst (pc := 141) (v := nI 4) dX10_cross_141 (by decide) ?_
      first | refine z_icmp_geN (pc := 142) (tgt := 209) (by with_reducible rfl) (by with_reducible rfl) dX10_cross_142 (by decide) (by omega) (by omega) (fun hb142 => ?_) (fun hb142 => ?_) | refine z_icmp_ge (pc := 142) (tgt := 209) dX10_cross_142 (by decide) (fun hb142 => ?_) (fun hb142 => ?_)
      · skip
        obtain rfl : a = 3 := (by omega)
        obtain rfl : b = 4 := (by omega)
        exact K J _ hU
      · skip
        refine z_iconst (pc := 145) (v := nI 0) dX10_cross_145 (by decide) ?_
        refine z_istore (pc := 146) dX10_cross_146 (by decide) rfl ?_
        try dsimp only [zst1, zst2, zk]
        first
        | exact ih a (b + 1) (zcan1 a b p) _ _ (by omega) ha (by omega) (zcan1_B hB ha (by omega)) (zhU_step (u := 90) hU) (fun J' w' h => K J' w' (by rw [show 16 - (4 * a + b) = (16 - (4 * a + (b + 1))) + 1 by omega, zcanf_s (by omega)]; exact h))
        | (obtain rfl : b = 4 := (by omega)
           exact ih (a + 1) 0 p _ _ (by omega) (by omega) (by omega) hB hU (fun J' w' h => K J' w' h))
        | fail
    · skip
      have l1 := hB.1 a ha
      have l2 := hB.2 b (by omega)
      have hg0 : 0 < Nat.gcd (p.2 b) (p.1 a) := Nat.gcd_pos_of_pos_left _ l2.1
      have hg1 : Nat.gcd (p.2 b) (p.1 a) ≤ p.2 b := Nat.gcd_le_left _ l2.1
      have hU2b : ∀ v, zup J 91 a v 92 b = lN (p.2 b) := (fun v => by rw [zup_n _ _ (by omega)]; exact hU2 b (by omega))
      refine z_aload_n (pc := 154) dX10_cross_154 rfl rfl ?_
      refine z_getR (pc := 155) dX10_cross_155 f_RX10_45 (by assumption) rfl ?_
      refine z_iload (pc := 158) dX10_cross_158 rfl ?_
      refine z_laloadv (pc := 160) dX10_cross_160 (by assumption) (by with_reducible rfl) (by omega) (by decide) (by first | assumption | exact hU1 a ha | exact hU2 b (by omega) | exact hU2b _ | exact hU1 _ (by omega) | exact hU2 _ (by omega) | rfl) ?_
      refine z_aload_n (pc := 161) dX10_cross_161 rfl rfl ?_
      refine z_getR (pc := 162) dX10_cross_162 f_RX10_49 (by assumption) rfl ?_
      refine z_iload (pc := 165) dX10_cross_165 rfl ?_
      refine z_laloadv (pc := 167) dX10_cross_167 (by assumption) (by with_reducible rfl) (by omega) (by decide) (by first | assumption | exact hU1 a ha | exact hU2 b (by omega) | exact hU2b _ | exact hU1 _ (by omega) | exact hU2 _ (by omega) | rfl) ?_
      refine z_callS (pc := 168) (c_X10_divisor (by omega) (by omega)) dX10_cross_168 l_RX10_143 m_MX10_divisor s_MX10_divisor rfl (by omega) rfl (Nat.le_of_ble_eq_true rfl) ?_
      rintro _ _ _ (⟨rfl, rfl, rfl⟩)
      try dsimp only [zov, Option.toList, List.cons_append, List.nil_append]
      refine z_lstore (pc := 171) dX10_cross_171 (by decide) rfl ?_
      try dsimp only [zst1, zst2, zk]
      refine z_aload_n (pc := 173) dX10_cross_173 rfl rfl ?_
      refine z_getR (pc := 174) dX10_cross_174 f_RX10_45 (by assumption) rfl ?_
      refine z_iload (pc := 177) dX10_cross_177 rfl ?_
      refine z_dup2 (pc := 179) dX10_cross_179 rfl rfl ?_
      refine z_laloadv (pc := 180) dX10_cross_180 (by assumption) (by with_reducible rfl) (by omega) (by decide) (by first | assumption | exact hU1 a ha | exact hU2 b (by omega) | exact hU2b _ | exact hU1 _ (by omega) | exact hU2 _ (by omega) | rfl) ?_
      refine z_lload (pc := 181) dX10_cross_181 rfl ?_
      refine z_ldivN (pc := 183) (by with_reducible rfl) (by with_reducible rfl) dX10_cross_183 (by omega) (by omega) (by omega) ?_
      refine z_lastore (pc := 184) dX10_cross_184 (by assumption) (by with_reducible rfl) (by omega) (by decide) ?_
      refine z_aload_n (pc := 185) dX10_cross_185 rfl rfl ?_
      refine z_getR (pc := 186) dX10_cross_186 f_RX10_49 (by assumption) rfl ?_
      refine z_iload (pc := 189) dX10_cross_189 rfl ?_
      refine z_dup2 (pc := 191) dX10_cross_191 rfl rfl ?_
      refine z_laloadv (pc := 192) dX10_cross_192 (by assumption) (by with_reducible rfl) (by omega) (by decide) (by first | assumption | exact hU1 a ha | exact hU2 b (by omega) | exact hU2b _ | exact hU1 _ (by omega) | exact hU2 _ (by omega) | rfl) ?_
      refine z_lload (pc := 193) dX10_cross_193 rfl ?_
      refine z_ldivN (pc := 195) (by with_reducible rfl) (by with_reducible rfl) dX10_cross_195 (by omega) (by omega) (by omega) ?_
      refine z_lastore (pc := 196) dX10_cross_196 (by assumption) (by with_reducible rfl) (by omega) (by decide) ?_
      first | refine z_iincN (pc := 197) (c := 1) dX10_cross_197 rfl (by with_reducible rfl) (by decide) (by decide) rfl ?_ | refine z_iinc (pc := 197) dX10_cross_197 rfl rfl (by decide) rfl ?_
      try dsimp only [zst1, zst2, zk]
      refine z_goto (pc := 200) (tgt := 148) dX10_cross_200 (by decide) ?_
      first
      | exact ih a (b + 1) (zcan1 a b p) _ _ (by omega) ha (by omega) (zcan1_B hB ha (by omega)) (zhU_step (u := 90) hU) (fun J' w' h => K J' w' (by rw [show 16 - (4 * a + b) = (16 - (4 * a + (b + 1))) + 1 by omega, zcanf_s (by omega)]; exact h))
      | (obtain rfl : b = 4 := (by omega)
         exact ih (a + 1) 0 p _ _ (by omega) (by omega) (by omega) hB hU (fun J' w' h => K J' w' h))
      | fail
theorem zcro_1 {z : Nat} {p : (Nat → Nat) × (Nat → Nat)} {q : Nat} (h : z = 1) : zcro z p q = -9223372036854775808 := by subst h; rfl
set_option maxHeartbeats 2000000 in
set_option maxRecDepth 20000 in
theorem c_X10_cross {lay : List zL} {I : zI} {J : zJ} {S : zS} (hM : kM lay) (hV : vM I J S) {i k j l p : Int32} : zMet lay MX10_cross 3 [.ref 79, .int i, .int k, .int j, .int l, .int p] I J (fun r I' J' => zPM I J (fcross S i k j l p) r I' J') := by
  refine zMet_of (t := MX10_cross) (ls := [.ref 79, .int i, .int k, .int j, .int l, .int p, .null, .null, .null, .null]) (by decide +kernel) (Nat.le_of_ble_eq_true rfl) rfl ?_
  obtain ⟨mo, m80, m81, m82, m83, m84, m85, m86, m87, m88, m89, m90, m91, m92, m93, m94, m95, m96⟩ := id hM
  have hW : vW I S.n := hV.1.1
  have hb := hV.1.2.1
  have hG := hV.1.2.2
  have hB := hb.1
  have hT := hb.2.1
  obtain ⟨b1, b2, b3, b4, b5, b6, b7, b8⟩ := id hB
  refine z_aload_n (pc := 0) dX10_cross_0 rfl rfl ?_
  refine z_iload_n (pc := 1) dX10_cross_1 rfl rfl ?_
  refine z_iload_n (pc := 2) dX10_cross_2 rfl rfl ?_
  refine z_callV (pc := 3) (c_X10_isCell hM hW hB) dX10_cross_3 l_RX10_72 m_MX10_isCell n_MX10_isCell e_MX10_isCell rfl (by omega) (by assumption) rfl rfl (Nat.le_of_ble_eq_true rfl) ?_
  rintro _ _ _ ⟨⟨rfl, hc⟩ | ⟨rfl, hc⟩, rfl, rfl⟩
  · obtain ⟨a, b, rfl, rfl, ha, hbb⟩ := hc
    try dsimp only [zov, Option.toList, List.cons_append, List.nil_append]
    first | refine z_if_eqN (pc := 6) (tgt := 60) (by with_reducible rfl) dX10_cross_6 (by decide) (by omega) (fun hb6 => absurd hb6 (by decide)) (fun hb6 => ?_) | refine z_if_eq (pc := 6) (tgt := 60) dX10_cross_6 (by decide) (fun hb6 => absurd hb6 (by decide)) (fun hb6 => ?_)
    · skip
      refine z_aload_n (pc := 9) dX10_cross_9 rfl rfl ?_
      refine z_iload_n (pc := 10) dX10_cross_10 rfl rfl ?_
      refine z_iload (pc := 11) dX10_cross_11 rfl ?_
      refine z_callV (pc := 13) (c_X10_isCell hM hW hB) dX10_cross_13 l_RX10_72 m_MX10_isCell n_MX10_isCell e_MX10_isCell rfl (by omega) (by assumption) rfl rfl (Nat.le_of_ble_eq_true rfl) ?_
      rintro _ _ _ ⟨⟨rfl, hc⟩ | ⟨rfl, hc⟩, rfl, rfl⟩
      · obtain ⟨c, e, rfl, rfl, hcc, hee⟩ := hc; have t1 := hT (3 * a + e) (by omega); have t2 := hT (3 * c + b) (by omega); rw [← Nat.add_assoc] at t1 t2
        try dsimp only [zov, Option.toList, List.cons_append, List.nil_append]
        first | refine z_if_eqN (pc := 16) (tgt := 60) (by with_reducible rfl) dX10_cross_16 (by decide) (by omega) (fun hb16 => absurd hb16 (by decide)) (fun hb16 => ?_) | refine z_if_eq (pc := 16) (tgt := 60) dX10_cross_16 (by decide) (fun hb16 => absurd hb16 (by decide)) (fun hb16 => ?_)
        · skip
          refine z_iload (pc := 19) dX10_cross_19 rfl ?_
          refine z_callS (pc := 21) c_X10_isPart dX10_cross_21 l_RX10_187 m_MX10_isPart s_MX10_isPart rfl (by omega) rfl (Nat.le_of_ble_eq_true rfl) ?_
          rintro _ _ _ ⟨⟨rfl, hp01⟩ | ⟨rfl, hp0, hp1⟩, rfl, rfl⟩
          · obtain ⟨q, rfl, hq1⟩ : ∃ q, p = nI q ∧ q ≤ 1 := hp01.elim (fun h => ⟨0, h, by omega⟩) (fun h => ⟨1, h, by omega⟩)
            try dsimp only [zov, Option.toList, List.cons_append, List.nil_append]
            first | refine z_if_eqN (pc := 24) (tgt := 60) (by with_reducible rfl) dX10_cross_24 (by decide) (by omega) (fun hb24 => absurd hb24 (by decide)) (fun hb24 => ?_) | refine z_if_eq (pc := 24) (tgt := 60) dX10_cross_24 (by decide) (fun hb24 => absurd hb24 (by decide)) (fun hb24 => ?_)
            · skip
              refine z_aload_n (pc := 27) dX10_cross_27 rfl rfl ?_
              refine z_getR (pc := 28) dX10_cross_28 f_RX10_11 (by assumption) rfl ?_
              refine z_bipush (pc := 31) (v := nI 34) dX10_cross_31 (by decide) ?_
              refine z_iconst (pc := 33) (v := nI 3) dX10_cross_33 (by decide) ?_
              refine z_iload_n (pc := 34) dX10_cross_34 rfl rfl ?_
              first | refine z_imulN (pc := 35) (by with_reducible rfl) (by with_reducible rfl) dX10_cross_35 ?_ | refine z_imul (pc := 35) dX10_cross_35 ?_
              first | refine z_iaddN (pc := 36) (by with_reducible rfl) (by with_reducible rfl) dX10_cross_36 ?_ | refine z_iadd (pc := 36) dX10_cross_36 ?_
              refine z_iload (pc := 37) dX10_cross_37 rfl ?_
              first | refine z_iaddN (pc := 39) (by with_reducible rfl) (by with_reducible rfl) dX10_cross_39 ?_ | refine z_iadd (pc := 39) dX10_cross_39 ?_
              refine z_ialoadv (pc := 40) dX10_cross_40 (by assumption) (by with_reducible rfl) (by omega) (by decide) (by first | assumption | exact hW _ (by omega) | exact hU.1 0 (by decide) | exact hU.1 2 (by decide) | rfl) ?_
              first | refine z_if_eqN (pc := 41) (tgt := 60) (by with_reducible rfl) dX10_cross_41 (by decide) (by omega) (fun hb41 => ?_) (fun hb41 => ?_) | refine z_if_eq (pc := 41) (tgt := 60) dX10_cross_41 (by decide) (fun hb41 => ?_) (fun hb41 => ?_)
              · skip
                refine z_ldc2 (pc := 60) (v := -9223372036854775808) dX10_cross_60 q_RX10_190 ?_
                refine z_lret (pc := 63) dX10_cross_63 rfl ?_
                first
                  | exact zPM_same hV (fcross_1 hc)
                  | exact zPM_same hV (fcross_2 hc)
                  | exact zPM_same hV (fcross_3 (zp01_n hp0 hp1))
                  | exact zPM_same hV (by rw [fcross_4 b2 b4 ha hbb hcc hee hq1]; rw [Nat.add_assoc] at hb41; rw [hb41]; exact congrArg (fun z => (Value.long z, S)) (zcro_1 (by split <;> rfl)))
                  | exact zPM_same hV (by rw [fcross_4 b2 b4 ha hbb hcc hee hq1]; rw [Nat.add_assoc] at hb57; rw [hb57]; exact congrArg (fun z => (Value.long z, S)) (zcro_1 rfl))
                  | exact zPM_keep hV (zmI_r _) (zhU_m hU) (by rw [eF]; exact congrArg (fun z => (Value.long z, S)) (zcro_z hB2 (Or.inl rfl) hb117 hq1))
                  | exact zPM_keep hV (zmI_r _) (zhU_m hU) (by rw [eF]; exact congrArg (fun z => (Value.long z, S)) (zcro_z hB2 (Or.inr rfl) hb128 hq1))
                  | fail
              · skip
                refine z_aload_n (pc := 44) dX10_cross_44 rfl rfl ?_
                refine z_getR (pc := 45) dX10_cross_45 f_RX10_11 (by assumption) rfl ?_
                refine z_bipush (pc := 48) (v := nI 34) dX10_cross_48 (by decide) ?_
                refine z_iconst (pc := 50) (v := nI 3) dX10_cross_50 (by decide) ?_
                refine z_iload_n (pc := 51) dX10_cross_51 rfl rfl ?_
                first | refine z_imulN (pc := 52) (by with_reducible rfl) (by with_reducible rfl) dX10_cross_52 ?_ | refine z_imul (pc := 52) dX10_cross_52 ?_
                first | refine z_iaddN (pc := 53) (by with_reducible rfl) (by with_reducible rfl) dX10_cross_53 ?_ | refine z_iadd (pc := 53) dX10_cross_53 ?_
                refine z_iload_n (pc := 54) dX10_cross_54 rfl rfl ?_
                first | refine z_iaddN (pc := 55) (by with_reducible rfl) (by with_reducible rfl) dX10_cross_55 ?_ | refine z_iadd (pc := 55) dX10_cross_55 ?_
                refine z_ialoadv (pc := 56) dX10_cross_56 (by assumption) (by with_reducible rfl) (by omega) (by decide) (by first | assumption | exact hW _ (by omega) | exact hU.1 0 (by decide) | exact hU.1 2 (by decide) | rfl) ?_
                first | refine z_if_neN (pc := 57) (tgt := 64) (by with_reducible rfl) dX10_cross_57 (by decide) (by omega) (fun hb57 => ?_) (fun hb57 => ?_) | refine z_if_ne (pc := 57) (tgt := 64) dX10_cross_57 (by decide) (fun hb57 => ?_) (fun hb57 => ?_)
                · skip
                  refine z_aload_n (pc := 64) dX10_cross_64 rfl rfl ?_
                  refine z_iconst (pc := 65) (v := nI 0) dX10_cross_65 (by decide) ?_
                  refine z_iconst (pc := 66) (v := nI 3) dX10_cross_66 (by decide) ?_
                  refine z_iload_n (pc := 67) dX10_cross_67 rfl rfl ?_
                  first | refine z_imulN (pc := 68) (by with_reducible rfl) (by with_reducible rfl) dX10_cross_68 ?_ | refine z_imul (pc := 68) dX10_cross_68 ?_
                  refine z_iload_n (pc := 69) dX10_cross_69 rfl rfl ?_
                  first | refine z_iaddN (pc := 70) (by with_reducible rfl) (by with_reducible rfl) dX10_cross_70 ?_ | refine z_iadd (pc := 70) dX10_cross_70 ?_
                  refine z_iconst (pc := 71) (v := nI 1) dX10_cross_71 (by decide) ?_
                  refine z_callV (pc := 72) (c_X10_ratio1 hM hW hT (by omega) (by omega)) dX10_cross_72 l_RX10_258 m_MX10_ratio n_MX10_ratio e_MX10_ratio rfl (by omega) (by assumption) rfl rfl (Nat.le_of_ble_eq_true rfl) ?_
                  rintro _ _ _ (⟨rfl, rfl, rfl⟩)
                  try dsimp only [zov, Option.toList, List.cons_append, List.nil_append]
                  refine z_aload_n (pc := 75) dX10_cross_75 rfl rfl ?_
                  refine z_iconst (pc := 76) (v := nI 1) dX10_cross_76 (by decide) ?_
                  refine z_iconst (pc := 77) (v := nI 3) dX10_cross_77 (by decide) ?_
                  refine z_iload_n (pc := 78) dX10_cross_78 rfl rfl ?_
                  first | refine z_imulN (pc := 79) (by with_reducible rfl) (by with_reducible rfl) dX10_cross_79 ?_ | refine z_imul (pc := 79) dX10_cross_79 ?_
                  refine z_iload (pc := 80) dX10_cross_80 rfl ?_
                  first | refine z_iaddN (pc := 82) (by with_reducible rfl) (by with_reducible rfl) dX10_cross_82 ?_ | refine z_iadd (pc := 82) dX10_cross_82 ?_
                  refine z_iconst (pc := 83) (v := nI 0) dX10_cross_83 (by decide) ?_
                  refine z_callV (pc := 84) (c_X10_ratio0 hM hW hT (by omega) (by omega)) dX10_cross_84 l_RX10_258 m_MX10_ratio n_MX10_ratio e_MX10_ratio rfl (by omega) (by assumption) rfl rfl (Nat.le_of_ble_eq_true rfl) ?_
                  rintro _ _ _ (⟨rfl, rfl, rfl⟩)
                  try dsimp only [zov, Option.toList, List.cons_append, List.nil_append]
                  refine z_aload_n (pc := 87) dX10_cross_87 rfl rfl ?_
                  refine z_iconst (pc := 88) (v := nI 2) dX10_cross_88 (by decide) ?_
                  refine z_iconst (pc := 89) (v := nI 3) dX10_cross_89 (by decide) ?_
                  refine z_iload_n (pc := 90) dX10_cross_90 rfl rfl ?_
                  first | refine z_imulN (pc := 91) (by with_reducible rfl) (by with_reducible rfl) dX10_cross_91 ?_ | refine z_imul (pc := 91) dX10_cross_91 ?_
                  refine z_iload (pc := 92) dX10_cross_92 rfl ?_
                  first | refine z_iaddN (pc := 94) (by with_reducible rfl) (by with_reducible rfl) dX10_cross_94 ?_ | refine z_iadd (pc := 94) dX10_cross_94 ?_
                  refine z_iconst (pc := 95) (v := nI 1) dX10_cross_95 (by decide) ?_
                  refine z_callV (pc := 96) (c_X10_ratio1 hM hW hT (by omega) (by omega)) dX10_cross_96 l_RX10_258 m_MX10_ratio n_MX10_ratio e_MX10_ratio rfl (by omega) (by assumption) rfl rfl (Nat.le_of_ble_eq_true rfl) ?_
                  rintro _ _ _ (⟨rfl, rfl, rfl⟩)
                  try dsimp only [zov, Option.toList, List.cons_append, List.nil_append]
                  refine z_aload_n (pc := 99) dX10_cross_99 rfl rfl ?_
                  refine z_iconst (pc := 100) (v := nI 3) dX10_cross_100 (by decide) ?_
                  refine z_iconst (pc := 101) (v := nI 3) dX10_cross_101 (by decide) ?_
                  refine z_iload_n (pc := 102) dX10_cross_102 rfl rfl ?_
                  first | refine z_imulN (pc := 103) (by with_reducible rfl) (by with_reducible rfl) dX10_cross_103 ?_ | refine z_imul (pc := 103) dX10_cross_103 ?_
                  refine z_iload_n (pc := 104) dX10_cross_104 rfl rfl ?_
                  first | refine z_iaddN (pc := 105) (by with_reducible rfl) (by with_reducible rfl) dX10_cross_105 ?_ | refine z_iadd (pc := 105) dX10_cross_105 ?_
                  refine z_iconst (pc := 106) (v := nI 0) dX10_cross_106 (by decide) ?_
                  refine z_callV (pc := 107) (c_X10_ratio0 hM hW hT (by omega) (by omega)) dX10_cross_107 l_RX10_258 m_MX10_ratio n_MX10_ratio e_MX10_ratio rfl (by omega) (by assumption) rfl rfl (Nat.le_of_ble_eq_true rfl) ?_
                  rintro _ _ _ (⟨rfl, rfl, rfl⟩)
                  try dsimp only [zov, Option.toList, List.cons_append, List.nil_append]
                  obtain ⟨Jn, hJn⟩ : ∃ J', J' = zup (zup (zup (zup (zup (zup (zup (zup J 91 0 (lN (S.n (34 + (3 * a + b))))) 92 0 (lN (S.n (43 + (3 * a + b))))) 91 1 (lN (S.n (43 + (3 * a + e))))) 92 1 (lN (S.n (34 + (3 * a + e))))) 91 2 (lN (S.n (34 + (3 * c + e))))) 92 2 (lN (S.n (43 + (3 * c + e))))) 91 3 (lN (S.n (43 + (3 * c + b))))) 92 3 (lN (S.n (34 + (3 * c + b)))) := ⟨_, rfl⟩
                  have hU : zhU J 90 (zcab S.n (3 * a + b) (3 * a + e) (3 * c + e) (3 * c + b)) Jn := (by rw [hJn]; exact zhU4 (A := (zcab S.n (3 * a + b) (3 * a + e) (3 * c + e) (3 * c + b)).1) (B := (zcab S.n (3 * a + b) (3 * a + e) (3 * c + e) (3 * c + b)).2))
                  refine z_heap rfl hJn.symm ?_
                  rw [Nat.add_assoc] at hb41 hb57
                  have hB2 : zcB (zcab S.n (3 * a + b) (3 * a + e) (3 * c + e) (3 * c + b)) := zcab_B hT (by omega) (by omega) (by omega) (by omega) hb41 hb57
                  have eF := fcross_4 (S := S) (a := a) (b := b) (c := c) (d := e) (q := q) b2 b4 ha hbb hcc hee hq1
                  rw [if_neg hb57, if_neg hb41] at eF
                  have l0 := hB2.1 0 (by decide)
                  have l2 := hB2.1 2 (by decide)
                  refine z_aload_n (pc := 110) dX10_cross_110 rfl rfl ?_
                  refine z_getR (pc := 111) dX10_cross_111 f_RX10_45 (by assumption) rfl ?_
                  refine z_iconst (pc := 114) (v := nI 0) dX10_cross_114 (by decide) ?_
                  refine z_laloadv (pc := 115) dX10_cross_115 (by assumption) (by with_reducible rfl) (by omega) (by decide) (by first | assumption | exact hW _ (by omega) | exact hU.1 0 (by decide) | exact hU.1 2 (by decide) | rfl) ?_
                  refine z_lconst (pc := 116) (v := lN 0) dX10_cross_116 rfl ?_
                  first | refine z_lc_eqN (pc := 117) (tgt := 132) (by with_reducible rfl) (by with_reducible rfl) dX10_cross_117 rfl dX10_cross_118 (by decide) (by omega) (by omega) (fun hb117 => ?_) (fun hb117 => ?_) | refine z_lc_eq (pc := 117) (tgt := 132) dX10_cross_117 rfl dX10_cross_118 (by decide) (fun hb117 => ?_) (fun hb117 => ?_)
                  · skip
                    refine z_iload (pc := 132) dX10_cross_132 rfl ?_
                    first | refine z_i2lN (pc := 134) (by with_reducible rfl) dX10_cross_134 (by omega) ?_ | refine z_i2l (pc := 134) dX10_cross_134 rfl ?_
                    refine z_lret (pc := 135) dX10_cross_135 rfl ?_
                    first
                      | exact zPM_same hV (fcross_1 hc)
                      | exact zPM_same hV (fcross_2 hc)
                      | exact zPM_same hV (fcross_3 (zp01_n hp0 hp1))
                      | exact zPM_same hV (by rw [fcross_4 b2 b4 ha hbb hcc hee hq1]; rw [Nat.add_assoc] at hb41; rw [hb41]; exact congrArg (fun z => (Value.long z, S)) (zcro_1 (by split <;> rfl)))
                      | exact zPM_same hV (by rw [fcross_4 b2 b4 ha hbb hcc hee hq1]; rw [Nat.add_assoc] at hb57; rw [hb57]; exact congrArg (fun z => (Value.long z, S)) (zcro_1 rfl))
                      | exact zPM_keep hV (zmI_r _) (zhU_m hU) (by rw [eF]; exact congrArg (fun z => (Value.long z, S)) (zcro_z hB2 (Or.inl rfl) hb117 hq1))
                      | exact zPM_keep hV (zmI_r _) (zhU_m hU) (by rw [eF]; exact congrArg (fun z => (Value.long z, S)) (zcro_z hB2 (Or.inr rfl) hb128 hq1))
                      | fail
                  · skip
                    refine z_aload_n (pc := 121) dX10_cross_121 rfl rfl ?_
                    refine z_getR (pc := 122) dX10_cross_122 f_RX10_45 (by assumption) rfl ?_
                    refine z_iconst (pc := 125) (v := nI 2) dX10_cross_125 (by decide) ?_
                    refine z_laloadv (pc := 126) dX10_cross_126 (by assumption) (by with_reducible rfl) (by omega) (by decide) (by first | assumption | exact hW _ (by omega) | exact hU.1 0 (by decide) | exact hU.1 2 (by decide) | rfl) ?_
                    refine z_lconst (pc := 127) (v := lN 0) dX10_cross_127 rfl ?_
                    first | refine z_lc_neN (pc := 128) (tgt := 136) (by with_reducible rfl) (by with_reducible rfl) dX10_cross_128 rfl dX10_cross_129 (by decide) (by omega) (by omega) (fun hb128 => ?_) (fun hb128 => ?_) | refine z_lc_ne (pc := 128) (tgt := 136) dX10_cross_128 rfl dX10_cross_129 (by decide) (fun hb128 => ?_) (fun hb128 => ?_)
                    · skip
                      refine z_iconst (pc := 136) (v := nI 0) dX10_cross_136 (by decide) ?_
                      refine z_istore (pc := 137) dX10_cross_137 (by decide) rfl ?_
                      try dsimp only [zst1, zst2, zk]
                      refine z_iload (pc := 139) dX10_cross_139 rfl ?_
                      refine z_iconst (pc := 141) (v := nI 4) dX10_cross_141 (by decide) ?_
                      first | refine z_icmp_geN (pc := 142) (tgt := 209) (by with_reducible rfl) (by with_reducible rfl) dX10_cross_142 (by decide) (by omega) (by omega) (fun hb142 => absurd hb142 (by omega)) (fun hb142 => ?_) | refine z_icmp_ge (pc := 142) (tgt := 209) dX10_cross_142 (by decide) (fun hb142 => absurd hb142 (by omega)) (fun hb142 => ?_)
                      · skip
                        refine z_iconst (pc := 145) (v := nI 0) dX10_cross_145 (by decide) ?_
                        refine z_istore (pc := 146) dX10_cross_146 (by decide) rfl ?_
                        try dsimp only [zst1, zst2, zk]
                        have hp1 : 1 ≤ (zcab S.n (3 * a + b) (3 * a + e) (3 * c + e) (3 * c + b)).1 1 := (hT (3 * a + e) (by omega)).2.1
                        have hp3 : 1 ≤ (zcab S.n (3 * a + b) (3 * a + e) (3 * c + e) (3 * c + b)).1 3 := (hT (3 * c + b) (by omega)).2.1
                        have hB16 := zcanf_B 16 0 _ (Nat.le_refl 16) hB2
                        refine l_X10_cross (d := 2) hM 100 0 0 (zcab S.n (3 * a + b) (3 * a + e) (3 * c + e) (3 * c + b)) Jn _ (by omega) (by omega) (by omega) hB2 hU (fun J' w' hU' => ?_)
                        have hpp : ∀ k, k < 4 → 1 ≤ (zcanf 16 0 (zcab S.n (3 * a + b) (3 * a + e) (3 * c + e) (3 * c + b))).1 k ∧ (zcanf 16 0 (zcab S.n (3 * a + b) (3 * a + e) (3 * c + e) (3 * c + b))).1 k ≤ 999999 := (fun k hk => ⟨zcanf_p 16 0 _ (by
                          rcases (show k = 0 ∨ k = 1 ∨ k = 2 ∨ k = 3 by omega) with rfl | rfl | rfl | rfl
                          · omega
                          · exact hp1
                          · omega
                          · exact hp3), hB16.1 k hk⟩)
                        refine z_aload_n (pc := 209) dX10_cross_209 rfl rfl ?_
                        refine z_getR (pc := 210) dX10_cross_210 f_RX10_45 (by assumption) rfl ?_
                        refine z_callS (pc := 213) (c_X10_product (by assumption) hU'.1 hpp) dX10_cross_213 l_RX10_262 m_MX10_product s_MX10_product rfl (by omega) rfl (Nat.le_of_ble_eq_true rfl) ?_
                        rintro _ _ _ (⟨rfl, rfl, rfl⟩)
                        try dsimp only [zov, Option.toList, List.cons_append, List.nil_append]
                        refine z_lstore (pc := 216) dX10_cross_216 (by decide) rfl ?_
                        try dsimp only [zst1, zst2, zk]
                        refine z_aload_n (pc := 218) dX10_cross_218 rfl rfl ?_
                        refine z_getR (pc := 219) dX10_cross_219 f_RX10_49 (by assumption) rfl ?_
                        refine z_callS (pc := 222) (c_X10_product (by assumption) hU'.2.1 hB16.2) dX10_cross_222 l_RX10_262 m_MX10_product s_MX10_product rfl (by omega) rfl (Nat.le_of_ble_eq_true rfl) ?_
                        rintro _ _ _ (⟨rfl, rfl, rfl⟩)
                        try dsimp only [zov, Option.toList, List.cons_append, List.nil_append]
                        refine z_lstore (pc := 225) dX10_cross_225 (by decide) rfl ?_
                        try dsimp only [zst1, zst2, zk]
                        refine z_lload (pc := 227) dX10_cross_227 rfl ?_
                        refine z_ldc2 (pc := 229) (v := -9223372036854775808) dX10_cross_229 q_RX10_190 ?_
                        refine z_lc_eq (pc := 232) (tgt := 245) dX10_cross_232 rfl dX10_cross_233 (by decide) (fun hb232 => ?_) (fun hb232 => ?_)
                        · skip
                          refine z_ldc2 (pc := 245) (v := -9223372036854775808) dX10_cross_245 q_RX10_190 ?_
                          refine z_goto (pc := 248) (tgt := 263) dX10_cross_248 (by decide) ?_
                          refine z_lret (pc := 263) dX10_cross_263 rfl ?_
                          first
                          | exact zPM_keep hV (zmI_r _) (zhU_m hU') (by rw [eF]; exact congrArg (fun z => (Value.long z, S)) (zcro_n (Or.inl hb232)))
                          | exact zPM_keep hV (zmI_r _) (zhU_m hU') (by rw [eF]; exact congrArg (fun z => (Value.long z, S)) (zcro_n (Or.inr hb241)))
                          | exact zPM_keep hV (zmI_r _) (zhU_m hU') (by rw [eF]; exact congrArg (fun z => (Value.long z, S)) ((zcro_y hb232 hb241).trans (if_pos hb253)))
                          | exact zPM_keep hV (zmI_r _) (zhU_m hU') (by rw [eF]; exact congrArg (fun z => (Value.long z, S)) ((zcro_y hb232 hb241).trans (if_neg hb253)))
                          | fail
                        · skip
                          refine z_lload (pc := 236) dX10_cross_236 rfl ?_
                          refine z_ldc2 (pc := 238) (v := -9223372036854775808) dX10_cross_238 q_RX10_190 ?_
                          refine z_lc_ne (pc := 241) (tgt := 251) dX10_cross_241 rfl dX10_cross_242 (by decide) (fun hb241 => ?_) (fun hb241 => ?_)
                          · skip
                            refine z_iload (pc := 251) dX10_cross_251 rfl ?_
                            first | refine z_if_neN (pc := 253) (tgt := 261) (by with_reducible rfl) dX10_cross_253 (by decide) (by omega) (fun hb253 => ?_) (fun hb253 => ?_) | refine z_if_ne (pc := 253) (tgt := 261) dX10_cross_253 (by decide) (fun hb253 => ?_) (fun hb253 => ?_)
                            · skip
                              refine z_lload (pc := 261) dX10_cross_261 rfl ?_
                              refine z_lret (pc := 263) dX10_cross_263 rfl ?_
                              first
                              | exact zPM_keep hV (zmI_r _) (zhU_m hU') (by rw [eF]; exact congrArg (fun z => (Value.long z, S)) (zcro_n (Or.inl hb232)))
                              | exact zPM_keep hV (zmI_r _) (zhU_m hU') (by rw [eF]; exact congrArg (fun z => (Value.long z, S)) (zcro_n (Or.inr hb241)))
                              | exact zPM_keep hV (zmI_r _) (zhU_m hU') (by rw [eF]; exact congrArg (fun z => (Value.long z, S)) ((zcro_y hb232 hb241).trans (if_pos hb253)))
                              | exact zPM_keep hV (zmI_r _) (zhU_m hU') (by rw [eF]; exact congrArg (fun z => (Value.long z, S)) ((zcro_y hb232 hb241).trans (if_neg hb253)))
                              | fail
                            · skip
                              refine z_lload (pc := 256) dX10_cross_256 rfl ?_
                              refine z_goto (pc := 258) (tgt := 263) dX10_cross_258 (by decide) ?_
                              refine z_lret (pc := 263) dX10_cross_263 rfl ?_
                              first
                              | exact zPM_keep hV (zmI_r _) (zhU_m hU') (by rw [eF]; exact congrArg (fun z => (Value.long z, S)) (zcro_n (Or.inl hb232)))
                              | exact zPM_keep hV (zmI_r _) (zhU_m hU') (by rw [eF]; exact congrArg (fun z => (Value.long z, S)) (zcro_n (Or.inr hb241)))
                              | exact zPM_keep hV (zmI_r _) (zhU_m hU') (by rw [eF]; exact congrArg (fun z => (Value.long z, S)) ((zcro_y hb232 hb241).trans (if_pos hb253)))
                              | exact zPM_keep hV (zmI_r _) (zhU_m hU') (by rw [eF]; exact congrArg (fun z => (Value.long z, S)) ((zcro_y hb232 hb241).trans (if_neg hb253)))
                              | fail
                          · skip
                            refine z_ldc2 (pc := 245) (v := -9223372036854775808) dX10_cross_245 q_RX10_190 ?_
                            refine z_goto (pc := 248) (tgt := 263) dX10_cross_248 (by decide) ?_
                            refine z_lret (pc := 263) dX10_cross_263 rfl ?_
                            first
                            | exact zPM_keep hV (zmI_r _) (zhU_m hU') (by rw [eF]; exact congrArg (fun z => (Value.long z, S)) (zcro_n (Or.inl hb232)))
                            | exact zPM_keep hV (zmI_r _) (zhU_m hU') (by rw [eF]; exact congrArg (fun z => (Value.long z, S)) (zcro_n (Or.inr hb241)))
                            | exact zPM_keep hV (zmI_r _) (zhU_m hU') (by rw [eF]; exact congrArg (fun z => (Value.long z, S)) ((zcro_y hb232 hb241).trans (if_pos hb253)))
                            | exact zPM_keep hV (zmI_r _) (zhU_m hU') (by rw [eF]; exact congrArg (fun z => (Value.long z, S)) ((zcro_y hb232 hb241).trans (if_neg hb253)))
                            | fail
                    · skip
                      refine z_iload (pc := 132) dX10_cross_132 rfl ?_
                      first | refine z_i2lN (pc := 134) (by with_reducible rfl) dX10_cross_134 (by omega) ?_ | refine z_i2l (pc := 134) dX10_cross_134 rfl ?_
                      refine z_lret (pc := 135) dX10_cross_135 rfl ?_
                      first
                        | exact zPM_same hV (fcross_1 hc)
                        | exact zPM_same hV (fcross_2 hc)
                        | exact zPM_same hV (fcross_3 (zp01_n hp0 hp1))
                        | exact zPM_same hV (by rw [fcross_4 b2 b4 ha hbb hcc hee hq1]; rw [Nat.add_assoc] at hb41; rw [hb41]; exact congrArg (fun z => (Value.long z, S)) (zcro_1 (by split <;> rfl)))
                        | exact zPM_same hV (by rw [fcross_4 b2 b4 ha hbb hcc hee hq1]; rw [Nat.add_assoc] at hb57; rw [hb57]; exact congrArg (fun z => (Value.long z, S)) (zcro_1 rfl))
                        | exact zPM_keep hV (zmI_r _) (zhU_m hU) (by rw [eF]; exact congrArg (fun z => (Value.long z, S)) (zcro_z hB2 (Or.inl rfl) hb117 hq1))
                        | exact zPM_keep hV (zmI_r _) (zhU_m hU) (by rw [eF]; exact congrArg (fun z => (Value.long z, S)) (zcro_z hB2 (Or.inr rfl) hb128 hq1))
                        | fail
                · skip
                  refine z_ldc2 (pc := 60) (v := -9223372036854775808) dX10_cross_60 q_RX10_190 ?_
                  refine z_lret (pc := 63) dX10_cross_63 rfl ?_
                  first
                    | exact zPM_same hV (fcross_1 hc)
                    | exact zPM_same hV (fcross_2 hc)
                    | exact zPM_same hV (fcross_3 (zp01_n hp0 hp1))
                    | exact zPM_same hV (by rw [fcross_4 b2 b4 ha hbb hcc hee hq1]; rw [Nat.add_assoc] at hb41; rw [hb41]; exact congrArg (fun z => (Value.long z, S)) (zcro_1 (by split <;> rfl)))
                    | exact zPM_same hV (by rw [fcross_4 b2 b4 ha hbb hcc hee hq1]; rw [Nat.add_assoc] at hb57; rw [hb57]; exact congrArg (fun z => (Value.long z, S)) (zcro_1 rfl))
                    | exact zPM_keep hV (zmI_r _) (zhU_m hU) (by rw [eF]; exact congrArg (fun z => (Value.long z, S)) (zcro_z hB2 (Or.inl rfl) hb117 hq1))
                    | exact zPM_keep hV (zmI_r _) (zhU_m hU) (by rw [eF]; exact congrArg (fun z => (Value.long z, S)) (zcro_z hB2 (Or.inr rfl) hb128 hq1))
                    | fail
          · skip
            try dsimp only [zov, Option.toList, List.cons_append, List.nil_append]
            first | refine z_if_eqN (pc := 24) (tgt := 60) (by with_reducible rfl) dX10_cross_24 (by decide) (by omega) (fun hb24 => ?_) (fun hb24 => absurd hb24 (by decide)) | refine z_if_eq (pc := 24) (tgt := 60) dX10_cross_24 (by decide) (fun hb24 => ?_) (fun hb24 => absurd hb24 (by decide))
            · skip
              refine z_ldc2 (pc := 60) (v := -9223372036854775808) dX10_cross_60 q_RX10_190 ?_
              refine z_lret (pc := 63) dX10_cross_63 rfl ?_
              first
                | exact zPM_same hV (fcross_1 hc)
                | exact zPM_same hV (fcross_2 hc)
                | exact zPM_same hV (fcross_3 (zp01_n hp0 hp1))
                | exact zPM_same hV (by rw [fcross_4 b2 b4 ha hbb hcc hee hq1]; rw [Nat.add_assoc] at hb41; rw [hb41]; exact congrArg (fun z => (Value.long z, S)) (zcro_1 (by split <;> rfl)))
                | exact zPM_same hV (by rw [fcross_4 b2 b4 ha hbb hcc hee hq1]; rw [Nat.add_assoc] at hb57; rw [hb57]; exact congrArg (fun z => (Value.long z, S)) (zcro_1 rfl))
                | exact zPM_keep hV (zmI_r _) (zhU_m hU) (by rw [eF]; exact congrArg (fun z => (Value.long z, S)) (zcro_z hB2 (Or.inl rfl) hb117 hq1))
                | exact zPM_keep hV (zmI_r _) (zhU_m hU) (by rw [eF]; exact congrArg (fun z => (Value.long z, S)) (zcro_z hB2 (Or.inr rfl) hb128 hq1))
                | fail
      · skip
        try dsimp only [zov, Option.toList, List.cons_append, List.nil_append]
        first | refine z_if_eqN (pc := 16) (tgt := 60) (by with_reducible rfl) dX10_cross_16 (by decide) (by omega) (fun hb16 => ?_) (fun hb16 => absurd hb16 (by decide)) | refine z_if_eq (pc := 16) (tgt := 60) dX10_cross_16 (by decide) (fun hb16 => ?_) (fun hb16 => absurd hb16 (by decide))
        · skip
          refine z_ldc2 (pc := 60) (v := -9223372036854775808) dX10_cross_60 q_RX10_190 ?_
          refine z_lret (pc := 63) dX10_cross_63 rfl ?_
          first
            | exact zPM_same hV (fcross_1 hc)
            | exact zPM_same hV (fcross_2 hc)
            | exact zPM_same hV (fcross_3 (zp01_n hp0 hp1))
            | exact zPM_same hV (by rw [fcross_4 b2 b4 ha hbb hcc hee hq1]; rw [Nat.add_assoc] at hb41; rw [hb41]; exact congrArg (fun z => (Value.long z, S)) (zcro_1 (by split <;> rfl)))
            | exact zPM_same hV (by rw [fcross_4 b2 b4 ha hbb hcc hee hq1]; rw [Nat.add_assoc] at hb57; rw [hb57]; exact congrArg (fun z => (Value.long z, S)) (zcro_1 rfl))
            | exact zPM_keep hV (zmI_r _) (zhU_m hU) (by rw [eF]; exact congrArg (fun z => (Value.long z, S)) (zcro_z hB2 (Or.inl rfl) hb117 hq1))
            | exact zPM_keep hV (zmI_r _) (zhU_m hU) (by rw [eF]; exact congrArg (fun z => (Value.long z, S)) (zcro_z hB2 (Or.inr rfl) hb128 hq1))
            | fail
  · skip
    try dsimp only [zov, Option.toList, List.cons_append, List.nil_append]
    first | refine z_if_eqN (pc := 6) (tgt := 60) (by with_reducible rfl) dX10_cross_6 (by decide) (by omega) (fun hb6 => ?_) (fun hb6 => absurd hb6 (by decide)) | refine z_if_eq (pc := 6) (tgt := 60) dX10_cross_6 (by decide) (fun hb6 => ?_) (fun hb6 => absurd hb6 (by decide))
    · skip
      refine z_ldc2 (pc := 60) (v := -9223372036854775808) dX10_cross_60 q_RX10_190 ?_
      refine z_lret (pc := 63) dX10_cross_63 rfl ?_
      first
        | exact zPM_same hV (fcross_1 hc)
        | exact zPM_same hV (fcross_2 hc)
        | exact zPM_same hV (fcross_3 (zp01_n hp0 hp1))
        | exact zPM_same hV (by rw [fcross_4 b2 b4 ha hbb hcc hee hq1]; rw [Nat.add_assoc] at hb41; rw [hb41]; exact congrArg (fun z => (Value.long z, S)) (zcro_1 (by split <;> rfl)))
        | exact zPM_same hV (by rw [fcross_4 b2 b4 ha hbb hcc hee hq1]; rw [Nat.add_assoc] at hb57; rw [hb57]; exact congrArg (fun z => (Value.long z, S)) (zcro_1 rfl))
        | exact zPM_keep hV (zmI_r _) (zhU_m hU) (by rw [eF]; exact congrArg (fun z => (Value.long z, S)) (zcro_z hB2 (Or.inl rfl) hb117 hq1))
        | exact zPM_keep hV (zmI_r _) (zhU_m hU) (by rw [eF]; exact congrArg (fun z => (Value.long z, S)) (zcro_z hB2 (Or.inr rfl) hb128 hq1))
        | fail
/-- orders from a cell on: within it from the a-th thing on -/
def zork (n : Nat → Nat) (k a : Nat) (p : Nat × Nat) : Option (Nat × Nat) := match zo1 (n (7 + k) + 1 - a) a p with
  | none => none
  | some q => zoa n (zl (n 0) (n 1) (k + 1)) q
theorem zork_n {n : Nat → Nat} {k a : Nat} {p : Nat × Nat} (ha : a ≤ n (7 + k)) (h : 9223372036854775807 < p.1 / Nat.gcd a p.1 * ((p.2 + 1) / (a / Nat.gcd a p.1))) : zork n k a p = none := by
  unfold zork
  rw [show n (7 + k) + 1 - a = (n (7 + k) - a) + 1 by omega, zo1, if_neg (by omega)]
theorem zork_y {n : Nat → Nat} {k a : Nat} {p : Nat × Nat} (ha : a ≤ n (7 + k)) (h : p.1 / Nat.gcd a p.1 * ((p.2 + 1) / (a / Nat.gcd a p.1)) ≤ 9223372036854775807) : zork n k a p = zork n k (a + 1) (p.1 / Nat.gcd a p.1 * ((p.2 + 1) / (a / Nat.gcd a p.1)), p.2 + 1) := by
  unfold zork
  rw [show n (7 + k) + 1 - a = (n (7 + k) - a) + 1 by omega, zo1, if_pos h, show n (7 + k) + 1 - (a + 1) = n (7 + k) - a by omega]
theorem zork_e {n : Nat → Nat} {k a : Nat} {p : Nat × Nat} (ha : n (7 + k) < a) : zork n k a p = zoa n (zl (n 0) (n 1) (k + 1)) p := by
  unfold zork
  rw [show n (7 + k) + 1 - a = 0 by omega, zo1]
theorem zork_1 {n : Nat → Nat} {k : Nat} {p : Nat × Nat} (hk : k < 9) (h : k / 3 < n 0 ∧ k % 3 < n 1) : zoa n (zl (n 0) (n 1) k) p = zork n k 1 p := by
  rw [zl_y hk h]
  unfold zoa zork
  rw [Nat.add_sub_cancel]
  cases zo1 (n (7 + k)) 1 p <;> rfl
theorem zoa_9 {n : Nat → Nat} {p : Nat × Nat} : zoa n (zl (n 0) (n 1) 9) p = some p := by rw [zl_9]; rfl
theorem zor_b {x a h : Nat} (hx : 1 ≤ x) (ha : 1 ≤ a) (hh : a ≤ h) : 1 ≤ x / Nat.gcd a x ∧ 1 ≤ h / (a / Nat.gcd a x) ∧ 1 ≤ Nat.gcd a x ∧ Nat.gcd a x ≤ a ∧ 1 ≤ a / Nat.gcd a x := by
  have g1 : 1 ≤ Nat.gcd a x := Nat.gcd_pos_of_pos_left _ ha
  have g2 : Nat.gcd a x ≤ a := Nat.gcd_le_left _ ha
  have g3 : Nat.gcd a x ≤ x := Nat.gcd_le_right _ hx
  have d1 : 1 ≤ a / Nat.gcd a x := Nat.div_pos g2 g1
  have d2 := Nat.div_le_self a (Nat.gcd a x)
  exact ⟨Nat.div_pos g3 g1, Nat.div_pos (by omega) d1, g1, g2, d1⟩
theorem zor_c {x m : Nat} (hm : 1 ≤ m) : x ≤ 9223372036854775807 / m ↔ x * m ≤ 9223372036854775807 := Nat.le_div_iff_mul_le hm
set_option maxHeartbeats 2000000 in
set_option maxRecDepth 20000 in
theorem l_X10_orders {lay : List zL} {Q : Value → zI → zJ → Prop} {n : Nat → Nat} {d : Nat} {I : zI} {J : zJ} (hM : kM lay) (hW : vW I n) (hB : bS n) : ∀ (m k a x h : Nat) (w6 w8 : Value), 22 * (9 - k) + (22 - a) < m → k < 9 → 1 ≤ a → (∀ c, c = n (7 + k) → a ≤ c + 1) → 1 ≤ x → x ≤ 9223372036854775807 → a ≤ h + 1 → h ≤ 20 * k + (a - 1) → (∀ q, (if k / 3 < n 0 ∧ k % 3 < n 1 then zork n k a (x, h) else zoa n (zl (n 0) (n 1) (k + 1)) (x, h)) = some q → q.1 ≤ 9223372036854775807 → Q (.long (lN q.1)) I J) → ((if k / 3 < n 0 ∧ k % 3 < n 1 then zork n k a (x, h) else zoa n (zl (n 0) (n 1) (k + 1)) (x, h)) = none → Q (.long (-9223372036854775808)) I J) → Z lay MX10_orders (d + 3) 17 [.ref 79, .long (lN x), .null, .int (nI h), .int (nI k), .int (nI a), w6, .null, w8, .null] [] I J Q := by
  intro m
  induction m with
  | zero => intro k a x h w6 w8 hm; exact absurd hm (by omega)
  | succ m ih =>
    intro k a x h w6 w8 hm hk ha hac hx1 hx2 hh1 hh2 hy hn
    have h20 := hB.2.2.2.2.2.1 k hk
    obtain ⟨mo, m80, m81, m82, m83, m84, m85, m86, m87, m88, m89, m90, m91, m92, m93, m94, m95, m96⟩ := id hM
    have hb9 := zor_b (h := h + 1) hx1 ha hh1
    have e1 := Nat.div_le_self x (Nat.gcd a x)
    have e2 := Nat.div_le_self (h + 1) (a / Nat.gcd a x)
    have e3 := Nat.div_le_self a (Nat.gcd a x)
    have e4 := Nat.div_le_self 9223372036854775807 ((h + 1) / (a / Nat.gcd a x))
    have e5 := zor_c (x := x / Nat.gcd a x) hb9.2.1
    have hac2 := hac _ rfl
    refine z_aload_n (pc := 17) dX10_orders_17 rfl rfl ?_
    refine z_iload (pc := 18) dX10_orders_18 rfl ?_
    refine z_callV (pc := 20) (c_X10_isHere hM hW hB (by omega)) dX10_orders_20 l_RX10_82 m_MX10_isHere n_MX10_isHere e_MX10_isHere rfl (by omega) (by assumption) rfl rfl (Nat.le_of_ble_eq_true rfl) ?_
    rintro _ _ _ ⟨⟨rfl, hc⟩ | ⟨rfl, hc⟩, rfl, rfl⟩
    · skip
      try dsimp only [zov, Option.toList, List.cons_append, List.nil_append]
      first | refine z_if_eqN (pc := 23) (tgt := 96) (by with_reducible rfl) dX10_orders_23 (by decide) (by omega) (fun hb23 => absurd hb23 (by decide)) (fun hb23 => ?_) | refine z_if_eq (pc := 23) (tgt := 96) dX10_orders_23 (by decide) (fun hb23 => absurd hb23 (by decide)) (fun hb23 => ?_)
      · skip
        refine z_iload (pc := 26) dX10_orders_26 rfl ?_
        refine z_aload_n (pc := 28) dX10_orders_28 rfl rfl ?_
        refine z_getR (pc := 29) dX10_orders_29 f_RX10_11 (by assumption) rfl ?_
        refine z_bipush (pc := 32) (v := nI 7) dX10_orders_32 (by decide) ?_
        refine z_iload (pc := 34) dX10_orders_34 rfl ?_
        first | refine z_iaddN (pc := 36) (by with_reducible rfl) (by with_reducible rfl) dX10_orders_36 ?_ | refine z_iadd (pc := 36) dX10_orders_36 ?_
        refine z_ialoadv (pc := 37) dX10_orders_37 (by assumption) (by with_reducible rfl) (by omega) (by decide) (by first | assumption | exact hW _ (by omega) | rfl) ?_
        first | refine z_icmp_gtN (pc := 38) (tgt := 96) (by with_reducible rfl) (by with_reducible rfl) dX10_orders_38 (by decide) (by omega) (by omega) (fun hb38 => ?_) (fun hb38 => ?_) | refine z_icmp_gt (pc := 38) (tgt := 96) dX10_orders_38 (by decide) (fun hb38 => ?_) (fun hb38 => ?_)
        · skip
          first | refine z_iincN (pc := 96) (c := 1) dX10_orders_96 rfl (by with_reducible rfl) (by decide) (by decide) rfl ?_ | refine z_iinc (pc := 96) dX10_orders_96 rfl rfl (by decide) rfl ?_
          try dsimp only [zst1, zst2, zk]
          refine z_goto (pc := 99) (tgt := 7) dX10_orders_99 (by decide) ?_
          refine z_iload (pc := 7) dX10_orders_7 rfl ?_
          refine z_bipush (pc := 9) (v := nI 9) dX10_orders_9 (by decide) ?_
          first | refine z_icmp_geN (pc := 11) (tgt := 102) (by with_reducible rfl) (by with_reducible rfl) dX10_orders_11 (by decide) (by omega) (by omega) (fun hb11 => ?_) (fun hb11 => ?_) | refine z_icmp_ge (pc := 11) (tgt := 102) dX10_orders_11 (by decide) (fun hb11 => ?_) (fun hb11 => ?_)
          · skip
            refine z_lload_n (pc := 102) dX10_orders_102 rfl rfl ?_
            refine z_lret (pc := 103) dX10_orders_103 rfl ?_
            first
            | exact hn (by rw [if_pos hc]; exact zork_n (by omega) (show 9223372036854775807 < x / Nat.gcd a x * ((h + 1) / (a / Nat.gcd a x)) from Nat.lt_of_not_le (fun z => hb74 (e5.mpr z))))
            | (obtain rfl : k = 8 := (by omega)
               exact hy (x, h) (by first | (rw [if_neg hc]; exact zoa_9) | (rw [if_pos hc, zork_e (by omega)]; exact zoa_9)) hx2)
            | fail
          · skip
            refine z_iconst (pc := 14) (v := nI 1) dX10_orders_14 (by decide) ?_
            refine z_istore (pc := 15) dX10_orders_15 (by decide) rfl ?_
            try dsimp only [zst1, zst2, zk]
            first
            | (have e6 := e5.mp (by omega)
               have e7 : 1 ≤ x / Nat.gcd a x * ((h + 1) / (a / Nat.gcd a x)) := Nat.mul_pos hb9.1 hb9.2.1
               exact ih k (a + 1) _ (h + 1) _ _ (by omega) hk (by omega) (fun c hc => by omega) e7 e6 (by omega) (by omega) (fun q h1 => hy q (by rw [if_pos hc] at h1 ⊢; rw [zork_y (by omega) e6]; exact h1)) (fun h1 => hn (by rw [if_pos hc] at h1 ⊢; rw [zork_y (by omega) e6]; exact h1)))
            | (have e8 : (if k / 3 < n 0 ∧ k % 3 < n 1 then zork n k a (x, h) else zoa n (zl (n 0) (n 1) (k + 1)) (x, h)) = zoa n (zl (n 0) (n 1) (k + 1)) (x, h) := (by
                 first
                 | (rw [if_neg hc]; done)
                 | (rw [if_pos hc, zork_e (by omega)]; done))
               have e9 : zoa n (zl (n 0) (n 1) (k + 1)) (x, h) = (if (k + 1) / 3 < n 0 ∧ (k + 1) % 3 < n 1 then zork n (k + 1) 1 (x, h) else zoa n (zl (n 0) (n 1) (k + 1 + 1)) (x, h)) := (by
                 by_cases q : (k + 1) / 3 < n 0 ∧ (k + 1) % 3 < n 1
                 · rw [if_pos q, zork_1 (by omega) q]
                 · rw [if_neg q, zl_n (by omega) q])
               rw [e8, e9] at hy hn
               exact ih (k + 1) 1 x h _ _ (by omega) (by omega) (by omega) (fun c hc => by omega) hx1 hx2 (by omega) (by omega) hy hn)
            | fail
        · skip
          first | refine z_iincN (pc := 41) (c := 1) dX10_orders_41 rfl (by with_reducible rfl) (by decide) (by decide) rfl ?_ | refine z_iinc (pc := 41) dX10_orders_41 rfl rfl (by decide) rfl ?_
          try dsimp only [zst1, zst2, zk]
          refine z_lload_n (pc := 44) dX10_orders_44 rfl rfl ?_
          refine z_iload (pc := 45) dX10_orders_45 rfl ?_
          first | refine z_i2lN (pc := 47) (by with_reducible rfl) dX10_orders_47 (by omega) ?_ | refine z_i2l (pc := 47) dX10_orders_47 rfl ?_
          refine z_callS (pc := 48) (c_X10_divisor (by omega) (by omega)) dX10_orders_48 l_RX10_143 m_MX10_divisor s_MX10_divisor rfl (by omega) rfl (Nat.le_of_ble_eq_true rfl) ?_
          rintro _ _ _ (⟨rfl, rfl, rfl⟩)
          try dsimp only [zov, Option.toList, List.cons_append, List.nil_append]
          refine z_lstore (pc := 51) dX10_orders_51 (by decide) rfl ?_
          try dsimp only [zst1, zst2, zk]
          refine z_iload_n (pc := 53) dX10_orders_53 rfl rfl ?_
          first | refine z_i2lN (pc := 54) (by with_reducible rfl) dX10_orders_54 (by omega) ?_ | refine z_i2l (pc := 54) dX10_orders_54 rfl ?_
          refine z_iload (pc := 55) dX10_orders_55 rfl ?_
          first | refine z_i2lN (pc := 57) (by with_reducible rfl) dX10_orders_57 (by omega) ?_ | refine z_i2l (pc := 57) dX10_orders_57 rfl ?_
          refine z_lload (pc := 58) dX10_orders_58 rfl ?_
          refine z_ldivN (pc := 60) (by with_reducible rfl) (by with_reducible rfl) dX10_orders_60 (by omega) (by omega) (by omega) ?_
          refine z_ldivN (pc := 61) (by with_reducible rfl) (by with_reducible rfl) dX10_orders_61 (by omega) (by omega) (by omega) ?_
          refine z_lstore (pc := 62) dX10_orders_62 (by decide) rfl ?_
          try dsimp only [zst1, zst2, zk]
          refine z_lload_n (pc := 64) dX10_orders_64 rfl rfl ?_
          refine z_lload (pc := 65) dX10_orders_65 rfl ?_
          refine z_ldivN (pc := 67) (by with_reducible rfl) (by with_reducible rfl) dX10_orders_67 (by omega) (by omega) (by omega) ?_
          refine z_ldc2 (pc := 68) (v := lN 9223372036854775807) dX10_orders_68 q_RX10_256 ?_
          refine z_lload (pc := 71) dX10_orders_71 rfl ?_
          refine z_ldivN (pc := 73) (by with_reducible rfl) (by with_reducible rfl) dX10_orders_73 (by omega) (by omega) (by omega) ?_
          first | refine z_lc_leN (pc := 74) (tgt := 82) (by with_reducible rfl) (by with_reducible rfl) dX10_orders_74 rfl dX10_orders_75 (by decide) (by omega) (by omega) (fun hb74 => ?_) (fun hb74 => ?_) | refine z_lc_le (pc := 74) (tgt := 82) dX10_orders_74 rfl dX10_orders_75 (by decide) (fun hb74 => ?_) (fun hb74 => ?_)
          · skip
            refine z_lload_n (pc := 82) dX10_orders_82 rfl rfl ?_
            refine z_lload (pc := 83) dX10_orders_83 rfl ?_
            refine z_ldivN (pc := 85) (by with_reducible rfl) (by with_reducible rfl) dX10_orders_85 (by omega) (by omega) (by omega) ?_
            refine z_lload (pc := 86) dX10_orders_86 rfl ?_
            first | refine z_lmulN (pc := 88) (by with_reducible rfl) (by with_reducible rfl) dX10_orders_88 ?_ | refine z_lmul (pc := 88) dX10_orders_88 ?_
            refine z_lstore_n (pc := 89) dX10_orders_89 rfl (by decide) rfl ?_
            try dsimp only [zst1, zst2, zk]
            first | refine z_iincN (pc := 90) (c := 1) dX10_orders_90 rfl (by with_reducible rfl) (by decide) (by decide) rfl ?_ | refine z_iinc (pc := 90) dX10_orders_90 rfl rfl (by decide) rfl ?_
            try dsimp only [zst1, zst2, zk]
            refine z_goto (pc := 93) (tgt := 17) dX10_orders_93 (by decide) ?_
            first
            | (have e6 := e5.mp (by omega)
               have e7 : 1 ≤ x / Nat.gcd a x * ((h + 1) / (a / Nat.gcd a x)) := Nat.mul_pos hb9.1 hb9.2.1
               exact ih k (a + 1) _ (h + 1) _ _ (by omega) hk (by omega) (fun c hc => by omega) e7 e6 (by omega) (by omega) (fun q h1 => hy q (by rw [if_pos hc] at h1 ⊢; rw [zork_y (by omega) e6]; exact h1)) (fun h1 => hn (by rw [if_pos hc] at h1 ⊢; rw [zork_y (by omega) e6]; exact h1)))
            | (have e8 : (if k / 3 < n 0 ∧ k % 3 < n 1 then zork n k a (x, h) else zoa n (zl (n 0) (n 1) (k + 1)) (x, h)) = zoa n (zl (n 0) (n 1) (k + 1)) (x, h) := (by
                 first
                 | (rw [if_neg hc]; done)
                 | (rw [if_pos hc, zork_e (by omega)]; done))
               have e9 : zoa n (zl (n 0) (n 1) (k + 1)) (x, h) = (if (k + 1) / 3 < n 0 ∧ (k + 1) % 3 < n 1 then zork n (k + 1) 1 (x, h) else zoa n (zl (n 0) (n 1) (k + 1 + 1)) (x, h)) := (by
                 by_cases q : (k + 1) / 3 < n 0 ∧ (k + 1) % 3 < n 1
                 · rw [if_pos q, zork_1 (by omega) q]
                 · rw [if_neg q, zl_n (by omega) q])
               rw [e8, e9] at hy hn
               exact ih (k + 1) 1 x h _ _ (by omega) (by omega) (by omega) (fun c hc => by omega) hx1 hx2 (by omega) (by omega) hy hn)
            | fail
          · skip
            refine z_ldc2 (pc := 78) (v := -9223372036854775808) dX10_orders_78 q_RX10_190 ?_
            refine z_lret (pc := 81) dX10_orders_81 rfl ?_
            first
            | exact hn (by rw [if_pos hc]; exact zork_n (by omega) (show 9223372036854775807 < x / Nat.gcd a x * ((h + 1) / (a / Nat.gcd a x)) from Nat.lt_of_not_le (fun z => hb74 (e5.mpr z))))
            | (obtain rfl : k = 8 := (by omega)
               exact hy (x, h) (by first | (rw [if_neg hc]; exact zoa_9) | (rw [if_pos hc, zork_e (by omega)]; exact zoa_9)) hx2)
            | fail
    · skip
      try dsimp only [zov, Option.toList, List.cons_append, List.nil_append]
      first | refine z_if_eqN (pc := 23) (tgt := 96) (by with_reducible rfl) dX10_orders_23 (by decide) (by omega) (fun hb23 => ?_) (fun hb23 => absurd hb23 (by decide)) | refine z_if_eq (pc := 23) (tgt := 96) dX10_orders_23 (by decide) (fun hb23 => ?_) (fun hb23 => absurd hb23 (by decide))
      · skip
        first | refine z_iincN (pc := 96) (c := 1) dX10_orders_96 rfl (by with_reducible rfl) (by decide) (by decide) rfl ?_ | refine z_iinc (pc := 96) dX10_orders_96 rfl rfl (by decide) rfl ?_
        try dsimp only [zst1, zst2, zk]
        refine z_goto (pc := 99) (tgt := 7) dX10_orders_99 (by decide) ?_
        refine z_iload (pc := 7) dX10_orders_7 rfl ?_
        refine z_bipush (pc := 9) (v := nI 9) dX10_orders_9 (by decide) ?_
        first | refine z_icmp_geN (pc := 11) (tgt := 102) (by with_reducible rfl) (by with_reducible rfl) dX10_orders_11 (by decide) (by omega) (by omega) (fun hb11 => ?_) (fun hb11 => ?_) | refine z_icmp_ge (pc := 11) (tgt := 102) dX10_orders_11 (by decide) (fun hb11 => ?_) (fun hb11 => ?_)
        · skip
          refine z_lload_n (pc := 102) dX10_orders_102 rfl rfl ?_
          refine z_lret (pc := 103) dX10_orders_103 rfl ?_
          first
          | exact hn (by rw [if_pos hc]; exact zork_n (by omega) (show 9223372036854775807 < x / Nat.gcd a x * ((h + 1) / (a / Nat.gcd a x)) from Nat.lt_of_not_le (fun z => hb74 (e5.mpr z))))
          | (obtain rfl : k = 8 := (by omega)
             exact hy (x, h) (by first | (rw [if_neg hc]; exact zoa_9) | (rw [if_pos hc, zork_e (by omega)]; exact zoa_9)) hx2)
          | fail
        · skip
          refine z_iconst (pc := 14) (v := nI 1) dX10_orders_14 (by decide) ?_
          refine z_istore (pc := 15) dX10_orders_15 (by decide) rfl ?_
          try dsimp only [zst1, zst2, zk]
          first
          | (have e6 := e5.mp (by omega)
             have e7 : 1 ≤ x / Nat.gcd a x * ((h + 1) / (a / Nat.gcd a x)) := Nat.mul_pos hb9.1 hb9.2.1
             exact ih k (a + 1) _ (h + 1) _ _ (by omega) hk (by omega) (fun c hc => by omega) e7 e6 (by omega) (by omega) (fun q h1 => hy q (by rw [if_pos hc] at h1 ⊢; rw [zork_y (by omega) e6]; exact h1)) (fun h1 => hn (by rw [if_pos hc] at h1 ⊢; rw [zork_y (by omega) e6]; exact h1)))
          | (have e8 : (if k / 3 < n 0 ∧ k % 3 < n 1 then zork n k a (x, h) else zoa n (zl (n 0) (n 1) (k + 1)) (x, h)) = zoa n (zl (n 0) (n 1) (k + 1)) (x, h) := (by
               first
               | (rw [if_neg hc]; done)
               | (rw [if_pos hc, zork_e (by omega)]; done))
             have e9 : zoa n (zl (n 0) (n 1) (k + 1)) (x, h) = (if (k + 1) / 3 < n 0 ∧ (k + 1) % 3 < n 1 then zork n (k + 1) 1 (x, h) else zoa n (zl (n 0) (n 1) (k + 1 + 1)) (x, h)) := (by
               by_cases q : (k + 1) / 3 < n 0 ∧ (k + 1) % 3 < n 1
               · rw [if_pos q, zork_1 (by omega) q]
               · rw [if_neg q, zl_n (by omega) q])
             rw [e8, e9] at hy hn
             exact ih (k + 1) 1 x h _ _ (by omega) (by omega) (by omega) (fun c hc => by omega) hx1 hx2 (by omega) (by omega) hy hn)
          | fail
set_option maxHeartbeats 2000000 in
set_option maxRecDepth 20000 in
theorem c_X10_orders {lay : List zL} {I : zI} {J : zJ} {S : zS} (hM : kM lay) (hV : vM I J S) : zMet lay MX10_orders 3 [.ref 79] I J (fun r I' J' => zPM I J (forders S) r I' J') := by
  refine zMet_of (t := MX10_orders) (ls := [.ref 79, .null, .null, .null, .null, .null, .null, .null, .null, .null]) (by decide +kernel) (Nat.le_of_ble_eq_true rfl) rfl ?_
  obtain ⟨mo, m80, m81, m82, m83, m84, m85, m86, m87, m88, m89, m90, m91, m92, m93, m94, m95, m96⟩ := id hM
  have hW : vW I S.n := hV.1.1
  have hb := hV.1.2.1
  have hG := hV.1.2.2
  have hB := hb.1
  have hT := hb.2.1
  obtain ⟨b1, b2, b3, b4, b5, b6, b7, b8⟩ := id hB
  have h00 : (0 : Nat) / 3 < S.n 0 ∧ (0 : Nat) % 3 < S.n 1 := ⟨by omega, by omega⟩
  refine z_lconst (pc := 0) (v := lN 1) dX10_orders_0 rfl ?_
  refine z_lstore_n (pc := 1) dX10_orders_1 rfl (by decide) rfl ?_
  try dsimp only [zst1, zst2, zk]
  refine z_iconst (pc := 2) (v := nI 0) dX10_orders_2 (by decide) ?_
  refine z_istore_n (pc := 3) dX10_orders_3 rfl (by decide) rfl ?_
  try dsimp only [zst1, zst2, zk]
  refine z_iconst (pc := 4) (v := nI 0) dX10_orders_4 (by decide) ?_
  refine z_istore (pc := 5) dX10_orders_5 (by decide) rfl ?_
  try dsimp only [zst1, zst2, zk]
  refine z_iload (pc := 7) dX10_orders_7 rfl ?_
  refine z_bipush (pc := 9) (v := nI 9) dX10_orders_9 (by decide) ?_
  first | refine z_icmp_geN (pc := 11) (tgt := 102) (by with_reducible rfl) (by with_reducible rfl) dX10_orders_11 (by decide) (by omega) (by omega) (fun hb11 => absurd hb11 (by decide)) (fun hb11 => ?_) | refine z_icmp_ge (pc := 11) (tgt := 102) dX10_orders_11 (by decide) (fun hb11 => absurd hb11 (by decide)) (fun hb11 => ?_)
  · skip
    refine z_iconst (pc := 14) (v := nI 1) dX10_orders_14 (by decide) ?_
    refine z_istore (pc := 15) dX10_orders_15 (by decide) rfl ?_
    try dsimp only [zst1, zst2, zk]
    exact l_X10_orders (d := 0) hM hW hB 1000 0 1 1 0 _ _ (by omega) (by omega) (by omega) (fun c hc => by omega) (by omega) (Nat.le_of_ble_eq_true rfl) (by omega) (by omega) (fun q h1 h2 => zPM_same hV (by rw [if_pos h00, ← zork_1 (by omega) h00] at h1; rw [forders, h1])) (fun h1 => zPM_same hV (by rw [if_pos h00, ← zork_1 (by omega) h00] at h1; rw [forders, h1]; rfl))
set_option maxHeartbeats 2000000 in
set_option maxRecDepth 20000 in
theorem c_X10_isAhead {lay : List zL} {I : zI} {J : zJ} {n : Nat → Nat} (hM : kM lay) (hW : vW I n) (hT : bT n) {a b : Nat} (ha : a < 9) (hb : b < 9) : zMet lay MX10_isAhead 0 [.ref 79, .int (nI a), .int (nI b)] I J (fun r I' J' => ((r = .int (nI 1) ∧ zah n a b = true) ∨ (r = .int (nI 0) ∧ zah n a b = false)) ∧ I = I' ∧ J = J') := by
  refine zMet_of (t := MX10_isAhead) (ls := [.ref 79, .int (nI a), .int (nI b), .null, .null, .null, .null]) (by decide +kernel) (Nat.le_of_ble_eq_true rfl) rfl ?_
  obtain ⟨mo, m80, m81, m82, m83, m84, m85, m86, m87, m88, m89, m90, m91, m92, m93, m94, m95, m96⟩ := id hM
  have ta := hT a ha
  have tb := hT b hb
  have m1 := zmul2 ta.1 tb.2.2
  have m2 := zmul2 tb.1 ta.2.2
  refine z_aload_n (pc := 0) dX10_isAhead_0 rfl rfl ?_
  refine z_getR (pc := 1) dX10_isAhead_1 f_RX10_11 (by assumption) rfl ?_
  refine z_bipush (pc := 4) (v := nI 34) dX10_isAhead_4 (by decide) ?_
  refine z_iload_n (pc := 6) dX10_isAhead_6 rfl rfl ?_
  first | refine z_iaddN (pc := 7) (by with_reducible rfl) (by with_reducible rfl) dX10_isAhead_7 ?_ | refine z_iadd (pc := 7) dX10_isAhead_7 ?_
  refine z_ialoadv (pc := 8) dX10_isAhead_8 (by assumption) (by with_reducible rfl) (by omega) (by decide) (by first | assumption | exact hW _ (by omega) | rfl) ?_
  first | refine z_i2lN (pc := 9) (by with_reducible rfl) dX10_isAhead_9 (by omega) ?_ | refine z_i2l (pc := 9) dX10_isAhead_9 rfl ?_
  refine z_aload_n (pc := 10) dX10_isAhead_10 rfl rfl ?_
  refine z_getR (pc := 11) dX10_isAhead_11 f_RX10_11 (by assumption) rfl ?_
  refine z_bipush (pc := 14) (v := nI 43) dX10_isAhead_14 (by decide) ?_
  refine z_iload_n (pc := 16) dX10_isAhead_16 rfl rfl ?_
  first | refine z_iaddN (pc := 17) (by with_reducible rfl) (by with_reducible rfl) dX10_isAhead_17 ?_ | refine z_iadd (pc := 17) dX10_isAhead_17 ?_
  refine z_ialoadv (pc := 18) dX10_isAhead_18 (by assumption) (by with_reducible rfl) (by omega) (by decide) (by first | assumption | exact hW _ (by omega) | rfl) ?_
  first | refine z_i2lN (pc := 19) (by with_reducible rfl) dX10_isAhead_19 (by omega) ?_ | refine z_i2l (pc := 19) dX10_isAhead_19 rfl ?_
  first | refine z_lmulN (pc := 20) (by with_reducible rfl) (by with_reducible rfl) dX10_isAhead_20 ?_ | refine z_lmul (pc := 20) dX10_isAhead_20 ?_
  refine z_lstore_n (pc := 21) dX10_isAhead_21 rfl (by decide) rfl ?_
  try dsimp only [zst1, zst2, zk]
  refine z_aload_n (pc := 22) dX10_isAhead_22 rfl rfl ?_
  refine z_getR (pc := 23) dX10_isAhead_23 f_RX10_11 (by assumption) rfl ?_
  refine z_bipush (pc := 26) (v := nI 34) dX10_isAhead_26 (by decide) ?_
  refine z_iload_n (pc := 28) dX10_isAhead_28 rfl rfl ?_
  first | refine z_iaddN (pc := 29) (by with_reducible rfl) (by with_reducible rfl) dX10_isAhead_29 ?_ | refine z_iadd (pc := 29) dX10_isAhead_29 ?_
  refine z_ialoadv (pc := 30) dX10_isAhead_30 (by assumption) (by with_reducible rfl) (by omega) (by decide) (by first | assumption | exact hW _ (by omega) | rfl) ?_
  first | refine z_i2lN (pc := 31) (by with_reducible rfl) dX10_isAhead_31 (by omega) ?_ | refine z_i2l (pc := 31) dX10_isAhead_31 rfl ?_
  refine z_aload_n (pc := 32) dX10_isAhead_32 rfl rfl ?_
  refine z_getR (pc := 33) dX10_isAhead_33 f_RX10_11 (by assumption) rfl ?_
  refine z_bipush (pc := 36) (v := nI 43) dX10_isAhead_36 (by decide) ?_
  refine z_iload_n (pc := 38) dX10_isAhead_38 rfl rfl ?_
  first | refine z_iaddN (pc := 39) (by with_reducible rfl) (by with_reducible rfl) dX10_isAhead_39 ?_ | refine z_iadd (pc := 39) dX10_isAhead_39 ?_
  refine z_ialoadv (pc := 40) dX10_isAhead_40 (by assumption) (by with_reducible rfl) (by omega) (by decide) (by first | assumption | exact hW _ (by omega) | rfl) ?_
  first | refine z_i2lN (pc := 41) (by with_reducible rfl) dX10_isAhead_41 (by omega) ?_ | refine z_i2l (pc := 41) dX10_isAhead_41 rfl ?_
  first | refine z_lmulN (pc := 42) (by with_reducible rfl) (by with_reducible rfl) dX10_isAhead_42 ?_ | refine z_lmul (pc := 42) dX10_isAhead_42 ?_
  refine z_lstore (pc := 43) dX10_isAhead_43 (by decide) rfl ?_
  try dsimp only [zst1, zst2, zk]
  refine z_lload_n (pc := 45) dX10_isAhead_45 rfl rfl ?_
  refine z_lload (pc := 46) dX10_isAhead_46 rfl ?_
  first | refine z_lc_eqN (pc := 48) (tgt := 67) (by with_reducible rfl) (by with_reducible rfl) dX10_isAhead_48 rfl dX10_isAhead_49 (by decide) (by omega) (by omega) (fun hb48 => ?_) (fun hb48 => ?_) | refine z_lc_eq (pc := 48) (tgt := 67) dX10_isAhead_48 rfl dX10_isAhead_49 (by decide) (fun hb48 => ?_) (fun hb48 => ?_)
  · skip
    refine z_iload_n (pc := 67) dX10_isAhead_67 rfl rfl ?_
    refine z_iload_n (pc := 68) dX10_isAhead_68 rfl rfl ?_
    first | refine z_icmp_geN (pc := 69) (tgt := 76) (by with_reducible rfl) (by with_reducible rfl) dX10_isAhead_69 (by decide) (by omega) (by omega) (fun hb69 => ?_) (fun hb69 => ?_) | refine z_icmp_ge (pc := 69) (tgt := 76) dX10_isAhead_69 (by decide) (fun hb69 => ?_) (fun hb69 => ?_)
    · skip
      refine z_iconst (pc := 76) (v := nI 0) dX10_isAhead_76 (by decide) ?_
      refine z_zret (pc := 77) dX10_isAhead_77 rfl (by first | decide | assumption) ?_
      first
        | exact ⟨Or.inl ⟨rfl, decide_eq_true (by omega)⟩, rfl, rfl⟩
        | exact ⟨Or.inr ⟨rfl, decide_eq_false (by omega)⟩, rfl, rfl⟩
        | fail
    · skip
      refine z_iconst (pc := 72) (v := nI 1) dX10_isAhead_72 (by decide) ?_
      refine z_goto (pc := 73) (tgt := 77) dX10_isAhead_73 (by decide) ?_
      refine z_zret (pc := 77) dX10_isAhead_77 rfl (by first | decide | assumption) ?_
      first
        | exact ⟨Or.inl ⟨rfl, decide_eq_true (by omega)⟩, rfl, rfl⟩
        | exact ⟨Or.inr ⟨rfl, decide_eq_false (by omega)⟩, rfl, rfl⟩
        | fail
  · skip
    refine z_lload_n (pc := 52) dX10_isAhead_52 rfl rfl ?_
    refine z_lload (pc := 53) dX10_isAhead_53 rfl ?_
    first | refine z_lc_leN (pc := 55) (tgt := 63) (by with_reducible rfl) (by with_reducible rfl) dX10_isAhead_55 rfl dX10_isAhead_56 (by decide) (by omega) (by omega) (fun hb55 => ?_) (fun hb55 => ?_) | refine z_lc_le (pc := 55) (tgt := 63) dX10_isAhead_55 rfl dX10_isAhead_56 (by decide) (fun hb55 => ?_) (fun hb55 => ?_)
    · skip
      refine z_iconst (pc := 63) (v := nI 0) dX10_isAhead_63 (by decide) ?_
      refine z_goto (pc := 64) (tgt := 77) dX10_isAhead_64 (by decide) ?_
      refine z_zret (pc := 77) dX10_isAhead_77 rfl (by first | decide | assumption) ?_
      first
        | exact ⟨Or.inl ⟨rfl, decide_eq_true (by omega)⟩, rfl, rfl⟩
        | exact ⟨Or.inr ⟨rfl, decide_eq_false (by omega)⟩, rfl, rfl⟩
        | fail
    · skip
      refine z_iconst (pc := 59) (v := nI 1) dX10_isAhead_59 (by decide) ?_
      refine z_goto (pc := 60) (tgt := 77) dX10_isAhead_60 (by decide) ?_
      refine z_zret (pc := 77) dX10_isAhead_77 rfl (by first | decide | assumption) ?_
      first
        | exact ⟨Or.inl ⟨rfl, decide_eq_true (by omega)⟩, rfl, rfl⟩
        | exact ⟨Or.inr ⟨rfl, decide_eq_false (by omega)⟩, rfl, rfl⟩
        | fail
set_option maxHeartbeats 2000000 in
set_option maxRecDepth 20000 in
theorem l1_X10_rank {lay : List zL} {Q : Value → zI → zJ → Prop} {n : Nat → Nat} {d c : Nat} {k : Int32} {I : zI} {J : zJ} (hM : kM lay) (hW : vW I n) (hB : bS n) (hT : bT n) (hc9 : c < 9) (K : Z lay MX10_rank (d + 3) 53 [.ref 79, .int k, .int (nI c), .int (nI (zca n c)), .int (nI 9)] [] I J Q) : ∀ (m a x : Nat), a + m = 9 → x + zlsum (fun a => if zah n a c then 1 else 0) (zl (n 0) (n 1) a) = zca n c → Z lay MX10_rank (d + 3) 13 [.ref 79, .int k, .int (nI c), .int (nI x), .int (nI a)] [] I J Q := by
  intro m
  induction m with
  | zero =>
    intro a x ha hx
    obtain rfl : a = 9 := (by omega)
    rw [zlsum_9, Nat.add_zero] at hx
    subst hx
    obtain ⟨mo, m80, m81, m82, m83, m84, m85, m86, m87, m88, m89, m90, m91, m92, m93, m94, m95, m96⟩ := id hM
    refine z_iload (pc := 13) dX10_rank_13 rfl ?_
    refine z_bipush (pc := 15) (v := nI 9) dX10_rank_15 (by decide) ?_
    first | refine z_icmp_geN (pc := 17) (tgt := 53) (by with_reducible rfl) (by with_reducible rfl) dX10_rank_17 (by decide) (by omega) (by omega) (fun hb17 => ?_) (fun hb17 => absurd hb17 (by omega)) | refine z_icmp_ge (pc := 17) (tgt := 53) dX10_rank_17 (by decide) (fun hb17 => ?_) (fun hb17 => absurd hb17 (by omega))
    · skip
      exact K
  | succ m ih =>
    intro a x ha hx
    obtain ⟨mo, m80, m81, m82, m83, m84, m85, m86, m87, m88, m89, m90, m91, m92, m93, m94, m95, m96⟩ := id hM
    refine z_iload (pc := 13) dX10_rank_13 rfl ?_
    refine z_bipush (pc := 15) (v := nI 9) dX10_rank_15 (by decide) ?_
    first | refine z_icmp_geN (pc := 17) (tgt := 53) (by with_reducible rfl) (by with_reducible rfl) dX10_rank_17 (by decide) (by omega) (by omega) (fun hb17 => absurd hb17 (by omega)) (fun hb17 => ?_) | refine z_icmp_ge (pc := 17) (tgt := 53) dX10_rank_17 (by decide) (fun hb17 => absurd hb17 (by omega)) (fun hb17 => ?_)
    · skip
      refine z_iload_n (pc := 20) dX10_rank_20 rfl rfl ?_
      refine z_aload_n (pc := 21) dX10_rank_21 rfl rfl ?_
      refine z_iload (pc := 22) dX10_rank_22 rfl ?_
      refine z_callV (pc := 24) (c_X10_isHere hM hW hB (by omega)) dX10_rank_24 l_RX10_82 m_MX10_isHere n_MX10_isHere e_MX10_isHere rfl (by omega) (by assumption) rfl rfl (Nat.le_of_ble_eq_true rfl) ?_
      rintro _ _ _ ⟨⟨rfl, hc⟩ | ⟨rfl, hc⟩, rfl, rfl⟩
      · skip
        try dsimp only [zov, Option.toList, List.cons_append, List.nil_append]
        first | refine z_if_eqN (pc := 27) (tgt := 44) (by with_reducible rfl) dX10_rank_27 (by decide) (by omega) (fun hb27 => absurd hb27 (by decide)) (fun hb27 => ?_) | refine z_if_eq (pc := 27) (tgt := 44) dX10_rank_27 (by decide) (fun hb27 => absurd hb27 (by decide)) (fun hb27 => ?_)
        · skip
          refine z_aload_n (pc := 30) dX10_rank_30 rfl rfl ?_
          refine z_iload (pc := 31) dX10_rank_31 rfl ?_
          refine z_iload_n (pc := 33) dX10_rank_33 rfl rfl ?_
          refine z_callV (pc := 34) (c_X10_isAhead hM hW hT (by omega) (by omega)) dX10_rank_34 l_RX10_266 m_MX10_isAhead n_MX10_isAhead e_MX10_isAhead rfl (by omega) (by assumption) rfl rfl (Nat.le_of_ble_eq_true rfl) ?_
          rintro _ _ _ ⟨⟨rfl, hah⟩ | ⟨rfl, hah⟩, rfl, rfl⟩
          · skip
            try dsimp only [zov, Option.toList, List.cons_append, List.nil_append]
            first | refine z_if_eqN (pc := 37) (tgt := 44) (by with_reducible rfl) dX10_rank_37 (by decide) (by omega) (fun hb37 => absurd hb37 (by decide)) (fun hb37 => ?_) | refine z_if_eq (pc := 37) (tgt := 44) dX10_rank_37 (by decide) (fun hb37 => absurd hb37 (by decide)) (fun hb37 => ?_)
            · skip
              refine z_iconst (pc := 40) (v := nI 1) dX10_rank_40 (by decide) ?_
              refine z_goto (pc := 41) (tgt := 45) dX10_rank_41 (by decide) ?_
              first | refine z_iaddN (pc := 45) (by with_reducible rfl) (by with_reducible rfl) dX10_rank_45 ?_ | refine z_iadd (pc := 45) dX10_rank_45 ?_
              refine z_istore_n (pc := 46) dX10_rank_46 rfl (by decide) rfl ?_
              try dsimp only [zst1, zst2, zk]
              first | refine z_iincN (pc := 47) (c := 1) dX10_rank_47 rfl (by with_reducible rfl) (by decide) (by decide) rfl ?_ | refine z_iinc (pc := 47) dX10_rank_47 rfl rfl (by decide) rfl ?_
              try dsimp only [zst1, zst2, zk]
              refine z_goto (pc := 50) (tgt := 13) dX10_rank_50 (by decide) ?_
              first
              | exact ih (a + 1) (x + 1) (by omega) (by rw [zlsum_y (by omega) hc, if_pos hah, ← Nat.add_assoc] at hx; exact hx)
              | exact ih (a + 1) (x + 0) (by omega) (by rw [zlsum_y (by omega) hc, if_neg (by rw [hah]; decide), ← Nat.add_assoc] at hx; exact hx)
              | exact ih (a + 1) (x + 0) (by omega) (by rw [zlsum_n (by omega) hc] at hx; exact hx)
              | fail
          · skip
            try dsimp only [zov, Option.toList, List.cons_append, List.nil_append]
            first | refine z_if_eqN (pc := 37) (tgt := 44) (by with_reducible rfl) dX10_rank_37 (by decide) (by omega) (fun hb37 => ?_) (fun hb37 => absurd hb37 (by decide)) | refine z_if_eq (pc := 37) (tgt := 44) dX10_rank_37 (by decide) (fun hb37 => ?_) (fun hb37 => absurd hb37 (by decide))
            · skip
              refine z_iconst (pc := 44) (v := nI 0) dX10_rank_44 (by decide) ?_
              first | refine z_iaddN (pc := 45) (by with_reducible rfl) (by with_reducible rfl) dX10_rank_45 ?_ | refine z_iadd (pc := 45) dX10_rank_45 ?_
              refine z_istore_n (pc := 46) dX10_rank_46 rfl (by decide) rfl ?_
              try dsimp only [zst1, zst2, zk]
              first | refine z_iincN (pc := 47) (c := 1) dX10_rank_47 rfl (by with_reducible rfl) (by decide) (by decide) rfl ?_ | refine z_iinc (pc := 47) dX10_rank_47 rfl rfl (by decide) rfl ?_
              try dsimp only [zst1, zst2, zk]
              refine z_goto (pc := 50) (tgt := 13) dX10_rank_50 (by decide) ?_
              first
              | exact ih (a + 1) (x + 1) (by omega) (by rw [zlsum_y (by omega) hc, if_pos hah, ← Nat.add_assoc] at hx; exact hx)
              | exact ih (a + 1) (x + 0) (by omega) (by rw [zlsum_y (by omega) hc, if_neg (by rw [hah]; decide), ← Nat.add_assoc] at hx; exact hx)
              | exact ih (a + 1) (x + 0) (by omega) (by rw [zlsum_n (by omega) hc] at hx; exact hx)
              | fail
      · skip
        try dsimp only [zov, Option.toList, List.cons_append, List.nil_append]
        first | refine z_if_eqN (pc := 27) (tgt := 44) (by with_reducible rfl) dX10_rank_27 (by decide) (by omega) (fun hb27 => ?_) (fun hb27 => absurd hb27 (by decide)) | refine z_if_eq (pc := 27) (tgt := 44) dX10_rank_27 (by decide) (fun hb27 => ?_) (fun hb27 => absurd hb27 (by decide))
        · skip
          refine z_iconst (pc := 44) (v := nI 0) dX10_rank_44 (by decide) ?_
          first | refine z_iaddN (pc := 45) (by with_reducible rfl) (by with_reducible rfl) dX10_rank_45 ?_ | refine z_iadd (pc := 45) dX10_rank_45 ?_
          refine z_istore_n (pc := 46) dX10_rank_46 rfl (by decide) rfl ?_
          try dsimp only [zst1, zst2, zk]
          first | refine z_iincN (pc := 47) (c := 1) dX10_rank_47 rfl (by with_reducible rfl) (by decide) (by decide) rfl ?_ | refine z_iinc (pc := 47) dX10_rank_47 rfl rfl (by decide) rfl ?_
          try dsimp only [zst1, zst2, zk]
          refine z_goto (pc := 50) (tgt := 13) dX10_rank_50 (by decide) ?_
          first
          | exact ih (a + 1) (x + 1) (by omega) (by rw [zlsum_y (by omega) hc, if_pos hah, ← Nat.add_assoc] at hx; exact hx)
          | exact ih (a + 1) (x + 0) (by omega) (by rw [zlsum_y (by omega) hc, if_neg (by rw [hah]; decide), ← Nat.add_assoc] at hx; exact hx)
          | exact ih (a + 1) (x + 0) (by omega) (by rw [zlsum_n (by omega) hc] at hx; exact hx)
          | fail
theorem zrk_y {n : Nat → Nat} {k : Int32} {a : Nat} (ha : a < 9) (h : a / 3 < n 0 ∧ a % 3 < n 1) (e : nI (zca n a) = k) : zrk n k (zl (n 0) (n 1) a) = nI (10 * (a / 3) + a % 3) := by
  rw [zl_y ha h, zrk, if_pos e]
theorem zrk_n {n : Nat → Nat} {k : Int32} {a : Nat} (ha : a < 9) (h : a / 3 < n 0 ∧ a % 3 < n 1) (e : ¬ nI (zca n a) = k) : zrk n k (zl (n 0) (n 1) a) = zrk n k (zl (n 0) (n 1) (a + 1)) := by
  rw [zl_y ha h, zrk, if_neg e]
theorem zrk_o {n : Nat → Nat} {k : Int32} {a : Nat} (ha : a < 9) (h : ¬ (a / 3 < n 0 ∧ a % 3 < n 1)) : zrk n k (zl (n 0) (n 1) a) = zrk n k (zl (n 0) (n 1) (a + 1)) := by
  rw [zl_n ha h]
theorem zrk_9 {n : Nat → Nat} {k : Int32} : zrk n k (zl (n 0) (n 1) 9) = -1 := by rw [zl_9]; rfl
set_option maxHeartbeats 2000000 in
set_option maxRecDepth 20000 in
theorem l_X10_rank {lay : List zL} {Q : Value → zI → zJ → Prop} {n : Nat → Nat} {d : Nat} {k : Int32} {I : zI} {J : zJ} (hM : kM lay) (hW : vW I n) (hB : bS n) (hT : bT n) : ∀ (m c : Nat) (w3 w4 : Value), c + m = 9 → Q (.int (zrk n k (zl (n 0) (n 1) c))) I J → Z lay MX10_rank (d + 3) 2 [.ref 79, .int k, .int (nI c), w3, w4] [] I J Q := by
  intro m
  induction m with
  | zero =>
    intro c w3 w4 hc hq
    obtain rfl : c = 9 := (by omega)
    rw [zrk_9] at hq
    obtain ⟨mo, m80, m81, m82, m83, m84, m85, m86, m87, m88, m89, m90, m91, m92, m93, m94, m95, m96⟩ := id hM
    refine z_iload_n (pc := 2) dX10_rank_2 rfl rfl ?_
    refine z_bipush (pc := 3) (v := nI 9) dX10_rank_3 (by decide) ?_
    first | refine z_icmp_geN (pc := 5) (tgt := 83) (by with_reducible rfl) (by with_reducible rfl) dX10_rank_5 (by decide) (by omega) (by omega) (fun hb5 => ?_) (fun hb5 => absurd hb5 (by omega)) | refine z_icmp_ge (pc := 5) (tgt := 83) dX10_rank_5 (by decide) (fun hb5 => ?_) (fun hb5 => absurd hb5 (by omega))
    · skip
      refine z_iconst (pc := 83) (v := -1) dX10_rank_83 (by decide) ?_
      refine z_iret (pc := 84) dX10_rank_84 rfl ?_
      exact hq
  | succ m ih =>
    intro c w3 w4 hc0 hq
    obtain ⟨mo, m80, m81, m82, m83, m84, m85, m86, m87, m88, m89, m90, m91, m92, m93, m94, m95, m96⟩ := id hM
    refine z_iload_n (pc := 2) dX10_rank_2 rfl rfl ?_
    refine z_bipush (pc := 3) (v := nI 9) dX10_rank_3 (by decide) ?_
    first | refine z_icmp_geN (pc := 5) (tgt := 83) (by with_reducible rfl) (by with_reducible rfl) dX10_rank_5 (by decide) (by omega) (by omega) (fun hb5 => absurd hb5 (by omega)) (fun hb5 => ?_) | refine z_icmp_ge (pc := 5) (tgt := 83) dX10_rank_5 (by decide) (fun hb5 => absurd hb5 (by omega)) (fun hb5 => ?_)
    · skip
      refine z_iconst (pc := 8) (v := nI 0) dX10_rank_8 (by decide) ?_
      refine z_istore_n (pc := 9) dX10_rank_9 rfl (by decide) rfl ?_
      try dsimp only [zst1, zst2, zk]
      refine z_iconst (pc := 10) (v := nI 0) dX10_rank_10 (by decide) ?_
      refine z_istore (pc := 11) dX10_rank_11 (by decide) rfl ?_
      try dsimp only [zst1, zst2, zk]
      refine l1_X10_rank hM hW hB hT (by omega) ?_ 9 0 0 rfl (by rw [Nat.zero_add]; rfl)
      refine z_aload_n (pc := 53) dX10_rank_53 rfl rfl ?_
      refine z_iload_n (pc := 54) dX10_rank_54 rfl rfl ?_
      refine z_callV (pc := 55) (c_X10_isHere hM hW hB (by omega)) dX10_rank_55 l_RX10_82 m_MX10_isHere n_MX10_isHere e_MX10_isHere rfl (by omega) (by assumption) rfl rfl (Nat.le_of_ble_eq_true rfl) ?_
      rintro _ _ _ ⟨⟨rfl, hc⟩ | ⟨rfl, hc⟩, rfl, rfl⟩
      · skip
        try dsimp only [zov, Option.toList, List.cons_append, List.nil_append]
        first | refine z_if_eqN (pc := 58) (tgt := 77) (by with_reducible rfl) dX10_rank_58 (by decide) (by omega) (fun hb58 => absurd hb58 (by decide)) (fun hb58 => ?_) | refine z_if_eq (pc := 58) (tgt := 77) dX10_rank_58 (by decide) (fun hb58 => absurd hb58 (by decide)) (fun hb58 => ?_)
        · skip
          refine z_iload_n (pc := 61) dX10_rank_61 rfl rfl ?_
          refine z_iload_n (pc := 62) dX10_rank_62 rfl rfl ?_
          refine z_icmp_ne (pc := 63) (tgt := 77) dX10_rank_63 (by decide) (fun hb63 => ?_) (fun hb63 => ?_)
          · skip
            first | refine z_iincN (pc := 77) (c := 1) dX10_rank_77 rfl (by with_reducible rfl) (by decide) (by decide) rfl ?_ | refine z_iinc (pc := 77) dX10_rank_77 rfl rfl (by decide) rfl ?_
            try dsimp only [zst1, zst2, zk]
            refine z_goto (pc := 80) (tgt := 2) dX10_rank_80 (by decide) ?_
            first
            | exact ih (c + 1) _ _ (by omega) (by rw [zrk_n (by omega) hc hb63] at hq; exact hq)
            | exact ih (c + 1) _ _ (by omega) (by rw [zrk_o (by omega) hc] at hq; exact hq)
            | fail
          · skip
            refine z_bipush (pc := 66) (v := nI 10) dX10_rank_66 (by decide) ?_
            refine z_iload_n (pc := 68) dX10_rank_68 rfl rfl ?_
            refine z_iconst (pc := 69) (v := nI 3) dX10_rank_69 (by decide) ?_
            refine z_idivN (pc := 70) (by with_reducible rfl) (by with_reducible rfl) dX10_rank_70 (by omega) (by omega) (by omega) ?_
            first | refine z_imulN (pc := 71) (by with_reducible rfl) (by with_reducible rfl) dX10_rank_71 ?_ | refine z_imul (pc := 71) dX10_rank_71 ?_
            refine z_iload_n (pc := 72) dX10_rank_72 rfl rfl ?_
            refine z_iconst (pc := 73) (v := nI 3) dX10_rank_73 (by decide) ?_
            refine z_iremN (pc := 74) (by with_reducible rfl) (by with_reducible rfl) dX10_rank_74 (by omega) (by omega) (by omega) ?_
            first | refine z_iaddN (pc := 75) (by with_reducible rfl) (by with_reducible rfl) dX10_rank_75 ?_ | refine z_iadd (pc := 75) dX10_rank_75 ?_
            refine z_iret (pc := 76) dX10_rank_76 rfl ?_
            rw [zrk_y (by omega) hc hb63] at hq
            exact hq
      · skip
        try dsimp only [zov, Option.toList, List.cons_append, List.nil_append]
        first | refine z_if_eqN (pc := 58) (tgt := 77) (by with_reducible rfl) dX10_rank_58 (by decide) (by omega) (fun hb58 => ?_) (fun hb58 => absurd hb58 (by decide)) | refine z_if_eq (pc := 58) (tgt := 77) dX10_rank_58 (by decide) (fun hb58 => ?_) (fun hb58 => absurd hb58 (by decide))
        · skip
          first | refine z_iincN (pc := 77) (c := 1) dX10_rank_77 rfl (by with_reducible rfl) (by decide) (by decide) rfl ?_ | refine z_iinc (pc := 77) dX10_rank_77 rfl rfl (by decide) rfl ?_
          try dsimp only [zst1, zst2, zk]
          refine z_goto (pc := 80) (tgt := 2) dX10_rank_80 (by decide) ?_
          first
          | exact ih (c + 1) _ _ (by omega) (by rw [zrk_n (by omega) hc hb63] at hq; exact hq)
          | exact ih (c + 1) _ _ (by omega) (by rw [zrk_o (by omega) hc] at hq; exact hq)
          | fail
set_option maxHeartbeats 2000000 in
set_option maxRecDepth 20000 in
theorem c_X10_rank {lay : List zL} {I : zI} {J : zJ} {S : zS} (hM : kM lay) (hV : vM I J S) {k : Int32} : zMet lay MX10_rank 3 [.ref 79, .int k] I J (fun r I' J' => zPM I J (frank S k) r I' J') := by
  refine zMet_of (t := MX10_rank) (ls := [.ref 79, .int k, .null, .null, .null]) (by decide +kernel) (Nat.le_of_ble_eq_true rfl) rfl ?_
  obtain ⟨mo, m80, m81, m82, m83, m84, m85, m86, m87, m88, m89, m90, m91, m92, m93, m94, m95, m96⟩ := id hM
  have hW : vW I S.n := hV.1.1
  have hb := hV.1.2.1
  have hG := hV.1.2.2
  have hB := hb.1
  have hT := hb.2.1
  obtain ⟨b1, b2, b3, b4, b5, b6, b7, b8⟩ := id hB
  refine z_iconst (pc := 0) (v := nI 0) dX10_rank_0 (by decide) ?_
  refine z_istore_n (pc := 1) dX10_rank_1 rfl (by decide) rfl ?_
  try dsimp only [zst1, zst2, zk]
  exact l_X10_rank (d := 0) hM hW hB hT 9 0 _ _ rfl (zPM_same hV rfl)
