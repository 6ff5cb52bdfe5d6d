/-- Euclid's way ends within n steps -/
def zeu : Nat → Nat → Nat → Prop
  | 0, _, b => b = 0
  | n + 1, a, b => b = 0 ∨ zeu n b (a % b)
theorem zeu_0 : ∀ (n a : Nat), zeu n a 0
  | 0, _ => rfl
  | _ + 1, _ => Or.inl rfl
theorem zeu_le : ∀ (n k a b : Nat), zeu n a b → zeu (n + k) a b
  | 0, k, a, b, h => by
    have h1 : b = 0 := h
    subst h1
    exact zeu_0 _ _
  | n + 1, k, a, b, h => by
    rw [show n + 1 + k = (n + k) + 1 by omega]
    rcases h with h | h
    · exact Or.inl h
    · exact Or.inr (zeu_le n k _ _ h)
theorem zeu_pow : ∀ (k a b : Nat), b < 2 ^ k → zeu (2 * k) a b
  | 0, _, b, h => by
    have h1 : b = 0 := by simpa using h
    exact h1
  | k + 1, a, b, h => by
    rw [show 2 * (k + 1) = (2 * k + 1) + 1 by omega]
    rcases Nat.eq_zero_or_pos b with h0 | h0
    · exact Or.inl h0
    · refine Or.inr ?_
      rcases Nat.eq_zero_or_pos (a % b) with h1 | h1
      · exact Or.inl h1
      · refine Or.inr (zeu_pow k _ _ ?_)
        have h2 : a % b < b := Nat.mod_lt _ h0
        have h3 : b % (a % b) < a % b := Nat.mod_lt _ h1
        have h4 : b % (a % b) ≤ b - a % b := by
          have h5 := Nat.mod_add_div b (a % b)
          have h6 : 1 ≤ b / (a % b) := (Nat.le_div_iff_mul_le h1).mpr (by omega)
          have h7 : a % b * 1 ≤ a % b * (b / (a % b)) := Nat.mul_le_mul_left _ h6
          omega
        have h8 : 2 ^ (k + 1) = 2 * 2 ^ k := by rw [Nat.pow_succ]; omega
        omega
theorem zeu_100 {a b : Nat} (h : b < 281474976710656) : zeu 100 a b := zeu_le 96 4 a b (zeu_pow 48 a b (by omega))
set_option maxHeartbeats 2000000 in
set_option maxRecDepth 20000 in
theorem l_X0_commonOf {lay : List zL} {I : zI} {J : zJ} {Q : Value → zI → zJ → Prop} {d : Nat} : ∀ (n s x y : Nat) (w : Value), s + n = 100 → zeu n x y → x < 9223372036854775808 → y < 9223372036854775808 → Q (.long (lN (Nat.gcd y x))) I J → Z lay MX0_commonOf d 3 [.long (lN x), .null, .long (lN y), .null, .int (nI s), w, .null] [] I J Q := by
  intro n
  induction n with
  | zero =>
    intro s x y w hs he hx hy hq
    have he : y = 0 := he
    subst he
    rw [Nat.gcd_zero_left] at hq
    refine z_iload (pc := 3) dX0_commonOf_3 rfl ?_
    refine z_bipush (pc := 5) (v := nI 100) dX0_commonOf_5 (by decide) ?_
    first | refine z_icmp_geN (pc := 7) (tgt := 32) (by with_reducible rfl) (by with_reducible rfl) dX0_commonOf_7 (by decide) (by omega) (by omega) (fun hb7 => ?_) (fun hb7 => absurd hb7 (by omega)) | refine z_icmp_ge (pc := 7) (tgt := 32) dX0_commonOf_7 (by decide) (fun hb7 => ?_) (fun hb7 => absurd hb7 (by omega))
    · skip
      refine z_lload_n (pc := 32) dX0_commonOf_32 rfl rfl ?_
      refine z_lret (pc := 33) dX0_commonOf_33 rfl ?_
      exact hq
  | succ n ih =>
    intro s x y w hs he hx hy hq
    refine z_iload (pc := 3) dX0_commonOf_3 rfl ?_
    refine z_bipush (pc := 5) (v := nI 100) dX0_commonOf_5 (by decide) ?_
    first | refine z_icmp_geN (pc := 7) (tgt := 32) (by with_reducible rfl) (by with_reducible rfl) dX0_commonOf_7 (by decide) (by omega) (by omega) (fun hb7 => absurd hb7 (by omega)) (fun hb7 => ?_) | refine z_icmp_ge (pc := 7) (tgt := 32) dX0_commonOf_7 (by decide) (fun hb7 => absurd hb7 (by omega)) (fun hb7 => ?_)
    · skip
      refine z_lload_n (pc := 10) dX0_commonOf_10 rfl rfl ?_
      refine z_lconst (pc := 11) (v := lN 0) dX0_commonOf_11 rfl ?_
      first | refine z_lc_eqN (pc := 12) (tgt := 32) (by with_reducible rfl) (by with_reducible rfl) dX0_commonOf_12 rfl dX0_commonOf_13 (by decide) (by omega) (by omega) (fun hb12 => ?_) (fun hb12 => ?_) | refine z_lc_eq (pc := 12) (tgt := 32) dX0_commonOf_12 rfl dX0_commonOf_13 (by decide) (fun hb12 => ?_) (fun hb12 => ?_)
      · skip
        refine z_lload_n (pc := 32) dX0_commonOf_32 rfl rfl ?_
        refine z_lret (pc := 33) dX0_commonOf_33 rfl ?_
        subst hb12; rw [Nat.gcd_zero_left] at hq; exact hq
      · have hm : x % y < y := Nat.mod_lt _ (by omega)
        refine z_lload_n (pc := 16) dX0_commonOf_16 rfl rfl ?_
        refine z_lload_n (pc := 17) dX0_commonOf_17 rfl rfl ?_
        refine z_lremN (pc := 18) (by with_reducible rfl) (by with_reducible rfl) dX0_commonOf_18 (by omega) (by omega) (by omega) ?_
        refine z_lstore (pc := 19) dX0_commonOf_19 (by decide) rfl ?_
        try dsimp only [zst1, zst2, zk]
        refine z_lload_n (pc := 21) dX0_commonOf_21 rfl rfl ?_
        refine z_lstore_n (pc := 22) dX0_commonOf_22 rfl (by decide) rfl ?_
        try dsimp only [zst1, zst2, zk]
        refine z_lload (pc := 23) dX0_commonOf_23 rfl ?_
        refine z_lstore_n (pc := 25) dX0_commonOf_25 rfl (by decide) rfl ?_
        try dsimp only [zst1, zst2, zk]
        first | refine z_iincN (pc := 26) (c := 1) dX0_commonOf_26 rfl (by with_reducible rfl) (by decide) (by decide) rfl ?_ | refine z_iinc (pc := 26) dX0_commonOf_26 rfl rfl (by decide) rfl ?_
        try dsimp only [zst1, zst2, zk]
        refine z_goto (pc := 29) (tgt := 3) dX0_commonOf_29 (by decide) ?_
        exact ih (s + 1) y (x % y) _ (by omega) (he.resolve_left hb12) hy (by omega) (by rw [← Nat.gcd_rec]; exact hq)
set_option maxHeartbeats 2000000 in
set_option maxRecDepth 20000 in
theorem c_X0_commonOf {lay : List zL} {I : zI} {J : zJ} {x y : Nat} (hx : x < 9223372036854775808) (hy : y < 281474976710656) : zMet lay MX0_commonOf 0 [.long (lN x), .long (lN y)] I J (fun r I' J' => r = .long (lN (Nat.gcd y x)) ∧ I = I' ∧ J = J') := by
  refine zMet_of (t := MX0_commonOf) (ls := [.long (lN x), .null, .long (lN y), .null, .null, .null, .null]) (by decide +kernel) (Nat.le_of_ble_eq_true rfl) rfl ?_
  refine z_iconst (pc := 0) (v := nI 0) dX0_commonOf_0 (by decide) ?_
  refine z_istore (pc := 1) dX0_commonOf_1 (by decide) rfl ?_
  try dsimp only [zst1, zst2, zk]
  exact l_X0_commonOf 100 0 x y _ rfl (zeu_100 hy) hx (by omega) ⟨rfl, rfl, rfl⟩
set_option maxHeartbeats 2000000 in
set_option maxRecDepth 20000 in
theorem c_X0_cut {lay : List zL} {I : zI} {J : zJ} {a : Nat} (hl : lay[a]? = some (.inl (0, [1, 1]))) {x y g : Nat} (hx : x < 9223372036854775808) (hy : y < 9223372036854775808) (hg : g < 9223372036854775808) (h0 : 0 < g) : zMet lay MX0_cut 0 [.ref a, .long (lN x), .long (lN y), .long (lN g)] I J (fun r I' J' => r = .null ∧ I = I' ∧ J' = zup (zup J a 0 (lN (x / g))) a 1 (lN (y / g))) := by
  refine zMet_of (t := MX0_cut) (ls := [.ref a, .long (lN x), .null, .long (lN y), .null, .long (lN g), .null]) (by decide +kernel) (Nat.le_of_ble_eq_true rfl) rfl ?_
  refine z_aload_n (pc := 0) dX0_cut_0 rfl rfl ?_
  refine z_lload (pc := 1) dX0_cut_1 rfl ?_
  refine z_lconst (pc := 3) (v := lN 1) dX0_cut_3 rfl ?_
  first | refine z_lc_leN (pc := 4) (tgt := 15) (by with_reducible rfl) (by with_reducible rfl) dX0_cut_4 rfl dX0_cut_5 (by decide) (by omega) (by omega) (fun hb4 => ?_) (fun hb4 => ?_) | refine z_lc_le (pc := 4) (tgt := 15) dX0_cut_4 rfl dX0_cut_5 (by decide) (fun hb4 => ?_) (fun hb4 => ?_)
  · have e1 : g = 1 := by omega
    refine z_lload_n (pc := 15) dX0_cut_15 rfl rfl ?_
    refine z_putJ (pc := 16) dX0_cut_16 f_RX0_23 (by assumption) rfl ?_
    refine z_aload_n (pc := 19) dX0_cut_19 rfl rfl ?_
    refine z_lload (pc := 20) dX0_cut_20 rfl ?_
    refine z_lconst (pc := 22) (v := lN 1) dX0_cut_22 rfl ?_
    first | refine z_lc_leN (pc := 23) (tgt := 34) (by with_reducible rfl) (by with_reducible rfl) dX0_cut_23 rfl dX0_cut_24 (by decide) (by omega) (by omega) (fun hb23 => ?_) (fun hb23 => ?_) | refine z_lc_le (pc := 23) (tgt := 34) dX0_cut_23 rfl dX0_cut_24 (by decide) (fun hb23 => ?_) (fun hb23 => ?_)
    · skip
      refine z_lload_n (pc := 34) dX0_cut_34 rfl rfl ?_
      refine z_putJ (pc := 35) dX0_cut_35 f_RX0_9 (by assumption) rfl ?_
      refine z_vret (pc := 38) dX0_cut_38 rfl ?_
      first | exact ⟨rfl, rfl, rfl⟩ | (obtain rfl : g = 1 := (by omega); refine ⟨rfl, rfl, ?_⟩; simp only [Nat.div_one])
    · skip
      refine z_lload_n (pc := 27) dX0_cut_27 rfl rfl ?_
      refine z_lload (pc := 28) dX0_cut_28 rfl ?_
      refine z_ldivN (pc := 30) (by with_reducible rfl) (by with_reducible rfl) dX0_cut_30 (by omega) (by omega) (by omega) ?_
      refine z_goto (pc := 31) (tgt := 35) dX0_cut_31 (by decide) ?_
      refine z_putJ (pc := 35) dX0_cut_35 f_RX0_9 (by assumption) rfl ?_
      refine z_vret (pc := 38) dX0_cut_38 rfl ?_
      first | exact ⟨rfl, rfl, rfl⟩ | (obtain rfl : g = 1 := (by omega); refine ⟨rfl, rfl, ?_⟩; simp only [Nat.div_one])
  · skip
    refine z_lload_n (pc := 8) dX0_cut_8 rfl rfl ?_
    refine z_lload (pc := 9) dX0_cut_9 rfl ?_
    refine z_ldivN (pc := 11) (by with_reducible rfl) (by with_reducible rfl) dX0_cut_11 (by omega) (by omega) (by omega) ?_
    refine z_goto (pc := 12) (tgt := 16) dX0_cut_12 (by decide) ?_
    refine z_putJ (pc := 16) dX0_cut_16 f_RX0_23 (by assumption) rfl ?_
    refine z_aload_n (pc := 19) dX0_cut_19 rfl rfl ?_
    refine z_lload (pc := 20) dX0_cut_20 rfl ?_
    refine z_lconst (pc := 22) (v := lN 1) dX0_cut_22 rfl ?_
    first | refine z_lc_leN (pc := 23) (tgt := 34) (by with_reducible rfl) (by with_reducible rfl) dX0_cut_23 rfl dX0_cut_24 (by decide) (by omega) (by omega) (fun hb23 => ?_) (fun hb23 => ?_) | refine z_lc_le (pc := 23) (tgt := 34) dX0_cut_23 rfl dX0_cut_24 (by decide) (fun hb23 => ?_) (fun hb23 => ?_)
    · skip
      refine z_lload_n (pc := 34) dX0_cut_34 rfl rfl ?_
      refine z_putJ (pc := 35) dX0_cut_35 f_RX0_9 (by assumption) rfl ?_
      refine z_vret (pc := 38) dX0_cut_38 rfl ?_
      first | exact ⟨rfl, rfl, rfl⟩ | (obtain rfl : g = 1 := (by omega); refine ⟨rfl, rfl, ?_⟩; simp only [Nat.div_one])
    · skip
      refine z_lload_n (pc := 27) dX0_cut_27 rfl rfl ?_
      refine z_lload (pc := 28) dX0_cut_28 rfl ?_
      refine z_ldivN (pc := 30) (by with_reducible rfl) (by with_reducible rfl) dX0_cut_30 (by omega) (by omega) (by omega) ?_
      refine z_goto (pc := 31) (tgt := 35) dX0_cut_31 (by decide) ?_
      refine z_putJ (pc := 35) dX0_cut_35 f_RX0_9 (by assumption) rfl ?_
      refine z_vret (pc := 38) dX0_cut_38 rfl ?_
      first | exact ⟨rfl, rfl, rfl⟩ | (obtain rfl : g = 1 := (by omega); refine ⟨rfl, rfl, ?_⟩; simp only [Nat.div_one])
set_option maxHeartbeats 2000000 in
set_option maxRecDepth 20000 in
theorem c_X0_become {lay : List zL} {I : zI} {J : zJ} {a : Nat} (hl : lay[a]? = some (.inl (0, [1, 1]))) {x y : Nat} (hx : x < 9223372036854775808) (hy : y < 281474976710656) (h0 : 0 < y) : zMet lay MX0_become 1 [.ref a, .long (lN x), .long (lN y)] I J (fun r I' J' => r = .null ∧ I = I' ∧ J' = zup (zup J a 0 (lN (x / Nat.gcd y x))) a 1 (lN (y / Nat.gcd y x))) := by
  refine zMet_of (t := MX0_become) (ls := [.ref a, .long (lN x), .null, .long (lN y), .null]) (by decide +kernel) (Nat.le_of_ble_eq_true rfl) rfl ?_
  refine z_aload_n (pc := 0) dX0_become_0 rfl rfl ?_
  refine z_lload_n (pc := 1) dX0_become_1 rfl rfl ?_
  refine z_lload_n (pc := 2) dX0_become_2 rfl rfl ?_
  refine z_lload_n (pc := 3) dX0_become_3 rfl rfl ?_
  refine z_lload_n (pc := 4) dX0_become_4 rfl rfl ?_
  refine z_callS (pc := 5) (c_X0_commonOf (by omega) (by omega)) dX0_become_5 l_RX0_15 m_MX0_commonOf s_MX0_commonOf rfl (by omega) rfl (Nat.le_of_ble_eq_true rfl) ?_
  rintro _ _ _ (⟨rfl, rfl, rfl⟩)
  have hgp : 0 < Nat.gcd y x := Nat.gcd_pos_of_pos_left _ h0; have hgl : Nat.gcd y x ≤ y := Nat.gcd_le_left _ h0
  try dsimp only [zov, Option.toList, List.cons_append, List.nil_append]
  refine z_callV (pc := 8) (c_X0_cut (by assumption) (by omega) (by omega) (by omega) (by omega)) dX0_become_8 l_RX0_19 m_MX0_cut n_MX0_cut e_MX0_cut rfl (by omega) (by assumption) rfl rfl (Nat.le_of_ble_eq_true rfl) ?_
  rintro _ _ _ (⟨rfl, rfl, rfl⟩)
  try dsimp only [zov, Option.toList, List.cons_append, List.nil_append]
  refine z_vret (pc := 11) dX0_become_11 rfl ?_
  exact ⟨rfl, rfl, rfl⟩
set_option maxHeartbeats 2000000 in
set_option maxRecDepth 20000 in
theorem c_X0_add {lay : List zL} {I : zI} {J : zJ} {a : Nat} (hl : lay[a]? = some (.inl (0, [1, 1]))) {x y u v : Nat} (hx : J a 0 = lN x) (hy : J a 1 = lN y) (h1 : x * v + u * y < 9223372036854775808) (h2 : y * v < 281474976710656) (h0 : 0 < y * v) : zMet lay MX0_add 1 [.ref a, .long (lN u), .long (lN v)] I J (fun r I' J' => r = .null ∧ I = I' ∧ J' = zup (zup J a 0 (lN ((x * v + u * y) / Nat.gcd (y * v) (x * v + u * y)))) a 1 (lN (y * v / Nat.gcd (y * v) (x * v + u * y)))) := by
  refine zMet_of (t := MX0_add) (ls := [.ref a, .long (lN u), .null, .long (lN v), .null, .null, .null, .null, .null]) (by decide +kernel) (Nat.le_of_ble_eq_true rfl) rfl ?_
  refine z_aload_n (pc := 0) dX0_add_0 rfl rfl ?_
  refine z_getJv (pc := 1) dX0_add_1 f_RX0_23 (by assumption) rfl (by first | assumption | rfl) ?_
  refine z_lload_n (pc := 4) dX0_add_4 rfl rfl ?_
  first | refine z_lmulN (pc := 5) (by with_reducible rfl) (by with_reducible rfl) dX0_add_5 ?_ | refine z_lmul (pc := 5) dX0_add_5 ?_
  refine z_lload_n (pc := 6) dX0_add_6 rfl rfl ?_
  refine z_aload_n (pc := 7) dX0_add_7 rfl rfl ?_
  refine z_getJv (pc := 8) dX0_add_8 f_RX0_9 (by assumption) rfl (by first | assumption | rfl) ?_
  first | refine z_lmulN (pc := 11) (by with_reducible rfl) (by with_reducible rfl) dX0_add_11 ?_ | refine z_lmul (pc := 11) dX0_add_11 ?_
  first | refine z_laddN (pc := 12) (by with_reducible rfl) (by with_reducible rfl) dX0_add_12 ?_ | refine z_ladd (pc := 12) dX0_add_12 ?_
  refine z_lstore (pc := 13) dX0_add_13 (by decide) rfl ?_
  try dsimp only [zst1, zst2, zk]
  refine z_aload_n (pc := 15) dX0_add_15 rfl rfl ?_
  refine z_getJv (pc := 16) dX0_add_16 f_RX0_9 (by assumption) rfl (by first | assumption | rfl) ?_
  refine z_lload_n (pc := 19) dX0_add_19 rfl rfl ?_
  first | refine z_lmulN (pc := 20) (by with_reducible rfl) (by with_reducible rfl) dX0_add_20 ?_ | refine z_lmul (pc := 20) dX0_add_20 ?_
  refine z_lstore (pc := 21) dX0_add_21 (by decide) rfl ?_
  try dsimp only [zst1, zst2, zk]
  refine z_aload_n (pc := 23) dX0_add_23 rfl rfl ?_
  refine z_lload (pc := 24) dX0_add_24 rfl ?_
  refine z_lload (pc := 26) dX0_add_26 rfl ?_
  refine z_lload (pc := 28) dX0_add_28 rfl ?_
  refine z_lload (pc := 30) dX0_add_30 rfl ?_
  refine z_callS (pc := 32) (c_X0_commonOf (by omega) (by omega)) dX0_add_32 l_RX0_15 m_MX0_commonOf s_MX0_commonOf rfl (by omega) rfl (Nat.le_of_ble_eq_true rfl) ?_
  rintro _ _ _ (⟨rfl, rfl, rfl⟩)
  have hgp : 0 < Nat.gcd (y * v) (x * v + u * y) := Nat.gcd_pos_of_pos_left _ h0; have hgl : Nat.gcd (y * v) (x * v + u * y) ≤ (y * v) := Nat.gcd_le_left _ h0
  try dsimp only [zov, Option.toList, List.cons_append, List.nil_append]
  refine z_callV (pc := 35) (c_X0_cut (by assumption) (by omega) (by omega) (by omega) (by omega)) dX0_add_35 l_RX0_19 m_MX0_cut n_MX0_cut e_MX0_cut rfl (by omega) (by assumption) rfl rfl (Nat.le_of_ble_eq_true rfl) ?_
  rintro _ _ _ (⟨rfl, rfl, rfl⟩)
  try dsimp only [zov, Option.toList, List.cons_append, List.nil_append]
  refine z_vret (pc := 38) dX0_add_38 rfl ?_
  exact ⟨rfl, rfl, rfl⟩
set_option maxHeartbeats 2000000 in
set_option maxRecDepth 20000 in
theorem c_X0_isFine {lay : List zL} {I : zI} {J : zJ} {a : Nat} (hl : lay[a]? = some (.inl (0, [1, 1]))) {x y : Nat} (hx : J a 0 = lN x) (hy : J a 1 = lN y) (h1 : x < 9223372036854775808) (h2 : y < 9223372036854775808) : zMet lay MX0_isFine 0 [.ref a] I J (fun r I' J' => ((r = .int (nI 1) ∧ ¬ (x ≤ 999999 ∧ y ≤ 999999)) ∨ (r = .int (nI 0) ∧ x ≤ 999999 ∧ y ≤ 999999)) ∧ I = I' ∧ J = J') := by
  refine zMet_of (t := MX0_isFine) (ls := [.ref a]) (by decide +kernel) (Nat.le_of_ble_eq_true rfl) rfl ?_
  refine z_aload_n (pc := 0) dX0_isFine_0 rfl rfl ?_
  refine z_getJv (pc := 1) dX0_isFine_1 f_RX0_23 (by assumption) rfl (by first | assumption | rfl) ?_
  refine z_ldc2 (pc := 4) (v := lN 999999) dX0_isFine_4 q_RX0_26 ?_
  first | refine z_lc_gtN (pc := 7) (tgt := 22) (by with_reducible rfl) (by with_reducible rfl) dX0_isFine_7 rfl dX0_isFine_8 (by decide) (by omega) (by omega) (fun hb7 => ?_) (fun hb7 => ?_) | refine z_lc_gt (pc := 7) (tgt := 22) dX0_isFine_7 rfl dX0_isFine_8 (by decide) (fun hb7 => ?_) (fun hb7 => ?_)
  · skip
    refine z_iconst (pc := 22) (v := nI 1) dX0_isFine_22 (by decide) ?_
    refine z_goto (pc := 23) (tgt := 27) dX0_isFine_23 (by decide) ?_
    refine z_zret (pc := 27) dX0_isFine_27 rfl (by first | decide | assumption) ?_
    first | exact ⟨Or.inl ⟨rfl, by omega⟩, rfl, rfl⟩ | exact ⟨Or.inr ⟨rfl, by omega⟩, rfl, rfl⟩
  · skip
    refine z_aload_n (pc := 11) dX0_isFine_11 rfl rfl ?_
    refine z_getJv (pc := 12) dX0_isFine_12 f_RX0_9 (by assumption) rfl (by first | assumption | rfl) ?_
    refine z_ldc2 (pc := 15) (v := lN 999999) dX0_isFine_15 q_RX0_26 ?_
    first | refine z_lc_leN (pc := 18) (tgt := 26) (by with_reducible rfl) (by with_reducible rfl) dX0_isFine_18 rfl dX0_isFine_19 (by decide) (by omega) (by omega) (fun hb18 => ?_) (fun hb18 => ?_) | refine z_lc_le (pc := 18) (tgt := 26) dX0_isFine_18 rfl dX0_isFine_19 (by decide) (fun hb18 => ?_) (fun hb18 => ?_)
    · skip
      refine z_iconst (pc := 26) (v := nI 0) dX0_isFine_26 (by decide) ?_
      refine z_zret (pc := 27) dX0_isFine_27 rfl (by first | decide | assumption) ?_
      first | exact ⟨Or.inl ⟨rfl, by omega⟩, rfl, rfl⟩ | exact ⟨Or.inr ⟨rfl, by omega⟩, rfl, rfl⟩
    · skip
      refine z_iconst (pc := 22) (v := nI 1) dX0_isFine_22 (by decide) ?_
      refine z_goto (pc := 23) (tgt := 27) dX0_isFine_23 (by decide) ?_
      refine z_zret (pc := 27) dX0_isFine_27 rfl (by first | decide | assumption) ?_
      first | exact ⟨Or.inl ⟨rfl, by omega⟩, rfl, rfl⟩ | exact ⟨Or.inr ⟨rfl, by omega⟩, rfl, rfl⟩
set_option maxHeartbeats 2000000 in
set_option maxRecDepth 20000 in
theorem c_X0_isMoreThan {lay : List zL} {I : zI} {J : zJ} {a b : Nat} (hl : lay[a]? = some (.inl (0, [1, 1]))) (hl2 : lay[b]? = some (.inl (0, [1, 1])))  {x y u v : Nat} (hx : J a 0 = lN x) (hy : J a 1 = lN y) (hu : J b 0 = lN u) (hv : J b 1 = lN v) (h1 : x * v < 9223372036854775808) (h2 : u * y < 9223372036854775808) : zMet lay MX0_isMoreThan 0 [.ref a, .ref b] I J (fun r I' J' => ((r = .int (nI 1) ∧ u * y < x * v) ∨ (r = .int (nI 0) ∧ ¬ u * y < x * v)) ∧ I = I' ∧ J = J') := by
  refine zMet_of (t := MX0_isMoreThan) (ls := [.ref a, .ref b]) (by decide +kernel) (Nat.le_of_ble_eq_true rfl) rfl ?_
  refine z_aload_n (pc := 0) dX0_isMoreThan_0 rfl rfl ?_
  refine z_getJv (pc := 1) dX0_isMoreThan_1 f_RX0_23 (by assumption) rfl (by first | assumption | rfl) ?_
  refine z_aload_n (pc := 4) dX0_isMoreThan_4 rfl rfl ?_
  refine z_getJv (pc := 5) dX0_isMoreThan_5 f_RX0_9 (by assumption) rfl (by first | assumption | rfl) ?_
  first | refine z_lmulN (pc := 8) (by with_reducible rfl) (by with_reducible rfl) dX0_isMoreThan_8 ?_ | refine z_lmul (pc := 8) dX0_isMoreThan_8 ?_
  refine z_aload_n (pc := 9) dX0_isMoreThan_9 rfl rfl ?_
  refine z_getJv (pc := 10) dX0_isMoreThan_10 f_RX0_23 (by assumption) rfl (by first | assumption | rfl) ?_
  refine z_aload_n (pc := 13) dX0_isMoreThan_13 rfl rfl ?_
  refine z_getJv (pc := 14) dX0_isMoreThan_14 f_RX0_9 (by assumption) rfl (by first | assumption | rfl) ?_
  first | refine z_lmulN (pc := 17) (by with_reducible rfl) (by with_reducible rfl) dX0_isMoreThan_17 ?_ | refine z_lmul (pc := 17) dX0_isMoreThan_17 ?_
  first | refine z_lc_leN (pc := 18) (tgt := 26) (by with_reducible rfl) (by with_reducible rfl) dX0_isMoreThan_18 rfl dX0_isMoreThan_19 (by decide) (by omega) (by omega) (fun hb18 => ?_) (fun hb18 => ?_) | refine z_lc_le (pc := 18) (tgt := 26) dX0_isMoreThan_18 rfl dX0_isMoreThan_19 (by decide) (fun hb18 => ?_) (fun hb18 => ?_)
  · skip
    refine z_iconst (pc := 26) (v := nI 0) dX0_isMoreThan_26 (by decide) ?_
    refine z_zret (pc := 27) dX0_isMoreThan_27 rfl (by first | decide | assumption) ?_
    first | exact ⟨Or.inl ⟨rfl, by omega⟩, rfl, rfl⟩ | exact ⟨Or.inr ⟨rfl, by omega⟩, rfl, rfl⟩
  · skip
    refine z_iconst (pc := 22) (v := nI 1) dX0_isMoreThan_22 (by decide) ?_
    refine z_goto (pc := 23) (tgt := 27) dX0_isMoreThan_23 (by decide) ?_
    refine z_zret (pc := 27) dX0_isMoreThan_27 rfl (by first | decide | assumption) ?_
    first | exact ⟨Or.inl ⟨rfl, by omega⟩, rfl, rfl⟩ | exact ⟨Or.inr ⟨rfl, by omega⟩, rfl, rfl⟩
set_option maxHeartbeats 2000000 in
set_option maxRecDepth 20000 in
theorem c_X0_product {lay : List zL} {I : zI} {J : zJ} {x y : Nat} (hx : x < 9223372036854775808) (hy : y < 9223372036854775808) : zMet lay MX0_product 0 [.long (lN x), .long (lN y)] I J (fun r I' J' => ((r = .long (-9223372036854775808) ∧ 9223372036854775807 < x * y) ∨ (r = .long (lN (x * y)) ∧ x * y ≤ 9223372036854775807)) ∧ I = I' ∧ J = J') := by
  refine zMet_of (t := MX0_product) (ls := [.long (lN x), .null, .long (lN y), .null]) (by decide +kernel) (Nat.le_of_ble_eq_true rfl) rfl ?_
  refine z_lload_n (pc := 0) dX0_product_0 rfl rfl ?_
  refine z_lconst (pc := 1) (v := lN 0) dX0_product_1 rfl ?_
  first | refine z_lc_leN (pc := 2) (tgt := 20) (by with_reducible rfl) (by with_reducible rfl) dX0_product_2 rfl dX0_product_3 (by decide) (by omega) (by omega) (fun hb2 => ?_) (fun hb2 => ?_) | refine z_lc_le (pc := 2) (tgt := 20) dX0_product_2 rfl dX0_product_3 (by decide) (fun hb2 => ?_) (fun hb2 => ?_)
  · obtain rfl : x = 0 := (by omega)
    refine z_lload_n (pc := 20) dX0_product_20 rfl rfl ?_
    refine z_lload_n (pc := 21) dX0_product_21 rfl rfl ?_
    first | refine z_lmulN (pc := 22) (by with_reducible rfl) (by with_reducible rfl) dX0_product_22 ?_ | refine z_lmul (pc := 22) dX0_product_22 ?_
    refine z_lret (pc := 23) dX0_product_23 rfl ?_
    first | exact ⟨Or.inl ⟨rfl, by omega⟩, rfl, rfl⟩ | exact ⟨Or.inr ⟨rfl, by omega⟩, rfl, rfl⟩ | exact ⟨Or.inr ⟨rfl, by rw [Nat.zero_mul]; omega⟩, rfl, rfl⟩
  · skip
    refine z_lload_n (pc := 6) dX0_product_6 rfl rfl ?_
    refine z_ldc2 (pc := 7) (v := lN 9223372036854775807) dX0_product_7 q_RX0_30 ?_
    refine z_lload_n (pc := 10) dX0_product_10 rfl rfl ?_
    refine z_ldivN (pc := 11) (by with_reducible rfl) (by with_reducible rfl) dX0_product_11 (by omega) (by omega) (by omega) ?_
    have hdv : 9223372036854775807 / x ≤ 9223372036854775807 := Nat.div_le_self _ _
    first | refine z_lc_leN (pc := 12) (tgt := 20) (by with_reducible rfl) (by with_reducible rfl) dX0_product_12 rfl dX0_product_13 (by decide) (by omega) (by omega) (fun hb12 => ?_) (fun hb12 => ?_) | refine z_lc_le (pc := 12) (tgt := 20) dX0_product_12 rfl dX0_product_13 (by decide) (fun hb12 => ?_) (fun hb12 => ?_)
    · have hq := (Nat.le_div_iff_mul_le (by omega : 0 < x)).mp hb12; rw [Nat.mul_comm] at hq
      refine z_lload_n (pc := 20) dX0_product_20 rfl rfl ?_
      refine z_lload_n (pc := 21) dX0_product_21 rfl rfl ?_
      first | refine z_lmulN (pc := 22) (by with_reducible rfl) (by with_reducible rfl) dX0_product_22 ?_ | refine z_lmul (pc := 22) dX0_product_22 ?_
      refine z_lret (pc := 23) dX0_product_23 rfl ?_
      first | exact ⟨Or.inl ⟨rfl, by omega⟩, rfl, rfl⟩ | exact ⟨Or.inr ⟨rfl, by omega⟩, rfl, rfl⟩ | exact ⟨Or.inr ⟨rfl, by rw [Nat.zero_mul]; omega⟩, rfl, rfl⟩
    · have hq : ¬ y * x ≤ 9223372036854775807 := fun h => hb12 ((Nat.le_div_iff_mul_le (by omega : 0 < x)).mpr h); rw [Nat.mul_comm] at hq
      refine z_ldc2 (pc := 16) (v := -9223372036854775808) dX0_product_16 q_RX0_28 ?_
      refine z_lret (pc := 19) dX0_product_19 rfl ?_
      first | exact ⟨Or.inl ⟨rfl, by omega⟩, rfl, rfl⟩ | exact ⟨Or.inr ⟨rfl, by omega⟩, rfl, rfl⟩ | exact ⟨Or.inr ⟨rfl, by rw [Nat.zero_mul]; omega⟩, rfl, rfl⟩
