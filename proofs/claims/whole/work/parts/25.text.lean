/-! ===== the text of a set-up ===== -/
def kX (lay : List zL) (a : Nat) : Prop := lay[a]? = some (.inl (5, [a + 3, 0])) ∧ lay[a + 1]? = some (.inr (.inl 100))
def vX (I : zI) (a len : Nat) (tx : Nat → Nat) : Prop := I a 1 = nI len ∧ len ≤ 100 ∧ (∀ k, k < len → I (a + 1) k = nI (tx k)) ∧ ∀ k, k < len → tx k ≤ 127
def zisd (len : Nat) (tx : Nat → Nat) (k : Nat) : Prop := k < len ∧ 48 ≤ tx k ∧ tx k ≤ 57
def zisb (len : Nat) (tx : Nat → Nat) (k : Nat) : Bool := decide (k < len ∧ 48 ≤ tx k ∧ tx k ≤ 57)
def zrun (P : Nat → Bool) : Nat → Nat → Nat
  | 0, _ => 0
  | f + 1, k => if P k = true then 1 + zrun P f (k + 1) else 0
theorem zrun_le (P : Nat → Bool) : ∀ f k, zrun P f k ≤ f
  | 0, _ => Nat.le_refl _
  | f + 1, k => by
    have := zrun_le P f (k + 1)
    simp only [zrun]
    split <;> omega
/-- digits, so many at least and at most: whether, and the place behind them or the fault -/
def zde (P : Nat → Bool) (a f m : Nat) : Bool × Nat := (decide (f ≤ zrun P m a), a + zrun P m a)
/-- the clause that begins at a place: whether, and the place behind it or the fault -/
def zce (len : Nat) (tx : Nat → Nat) (a : Nat) : Bool × Nat :=
  if len ≤ a then (false, a) else if tx a = 115 then zde (zisb len tx) (a + 1) 2 2 else if tx a = 110 ∨ tx a = 109 then zde (zisb len tx) (a + 1) 3 4 else if tx a = 107 then zde (zisb len tx) (a + 1) 3 3 else if tx a = 120 then (true, a + 1) else (false, a)
def zco (p : Bool × Nat) : Int32 := if p.1 = true then nI p.2 else -1 - nI p.2
def zfa (len : Nat) (tx : Nat → Nat) : Nat → Nat → Option Nat
  | 0, a => some a
  | f + 1, a => if (zce len tx a).1 = true then (if len ≤ (zce len tx a).2 then none else if tx (zce len tx a).2 ≠ 59 ∨ f = 0 then some (zce len tx a).2 else zfa len tx f ((zce len tx a).2 + 1)) else some (zce len tx a).2
theorem zce_le {len : Nat} {tx : Nat → Nat} {a : Nat} : (zce len tx a).2 ≤ a + 5 := by
  unfold zce
  have h2 := zrun_le (zisb len tx) 2 (a + 1)
  have h3 := zrun_le (zisb len tx) 3 (a + 1)
  have h4 := zrun_le (zisb len tx) 4 (a + 1)
  unfold zde
  repeat' split
  all_goals first | (simp only []; omega) | (dsimp only; omega)
theorem zce_ge {len : Nat} {tx : Nat → Nat} {a : Nat} (h : (zce len tx a).1 = true) : a + 1 ≤ (zce len tx a).2 := by
  unfold zce at h ⊢
  by_cases h1 : len ≤ a
  · rw [if_pos h1] at h; cases h
  rw [if_neg h1] at h ⊢
  by_cases h2 : tx a = 115
  · rw [if_pos h2]; exact Nat.le_add_right _ _
  rw [if_neg h2] at h ⊢
  by_cases h3 : tx a = 110 ∨ tx a = 109
  · rw [if_pos h3]; exact Nat.le_add_right _ _
  rw [if_neg h3] at h ⊢
  by_cases h4 : tx a = 107
  · rw [if_pos h4]; exact Nat.le_add_right _ _
  rw [if_neg h4] at h ⊢
  by_cases h5 : tx a = 120
  · rw [if_pos h5]; exact Nat.le_refl _
  · rw [if_neg h5] at h; cases h
set_option maxHeartbeats 2000000 in
set_option maxRecDepth 20000 in
theorem c_X5_append {lay : List zL} {I : zI} {J : zJ} {a len c : Nat} {tx : Nat → Nat} (hX : kX lay a) (hV : vX I a len tx) : zMet lay MX5_append 0 [.ref a, .int (nI c)] I J (fun r I' J' => ((r = .int (-4) ∧ len = 100 ∧ I = I') ∨ (r = .int (nI (len + 1)) ∧ len < 100 ∧ I' = zup (zup I (a + 1) len (nI c)) a 1 (nI (len + 1)))) ∧ J = J') := by
  refine zMet_of (t := MX5_append) (ls := [.ref a, .int (nI c)]) (by decide +kernel) (Nat.le_of_ble_eq_true rfl) rfl ?_
  obtain ⟨h1, h2⟩ := id hX
  obtain ⟨v0, v1, v2, v3⟩ := id hV
  refine z_aload_n (pc := 0) dX5_append_0 rfl rfl ?_
  refine z_getIv (pc := 1) dX5_append_1 f_RX5_15 (by assumption) rfl (by first | assumption | exact zup_v (by omega) v0 | exact zup_s _ _ _ _ | rfl) ?_
  refine z_bipush (pc := 4) (v := nI 100) dX5_append_4 (by decide) ?_
  first | refine z_icmp_ltN (pc := 6) (tgt := 12) (by with_reducible rfl) (by with_reducible rfl) dX5_append_6 (by decide) (by omega) (by omega) (fun hb6 => ?_) (fun hb6 => ?_) | refine z_icmp_lt (pc := 6) (tgt := 12) dX5_append_6 (by decide) (fun hb6 => ?_) (fun hb6 => ?_)
  · skip
    refine z_aload_n (pc := 12) dX5_append_12 rfl rfl ?_
    refine z_getR (pc := 13) dX5_append_13 f_RX5_9 (by assumption) rfl ?_
    refine z_aload_n (pc := 16) dX5_append_16 rfl rfl ?_
    refine z_getIv (pc := 17) dX5_append_17 f_RX5_15 (by assumption) rfl (by first | assumption | exact zup_v (by omega) v0 | exact zup_s _ _ _ _ | rfl) ?_
    refine z_iload_n (pc := 20) dX5_append_20 rfl rfl ?_
    refine z_iastore (pc := 21) dX5_append_21 (by assumption) (by with_reducible rfl) (by omega) (by decide) ?_
    refine z_aload_n (pc := 22) dX5_append_22 rfl rfl ?_
    refine z_dup (pc := 23) dX5_append_23 rfl ?_
    refine z_getIv (pc := 24) dX5_append_24 f_RX5_15 (by assumption) rfl (by first | assumption | exact zup_v (by omega) v0 | exact zup_s _ _ _ _ | rfl) ?_
    refine z_iconst (pc := 27) (v := nI 1) dX5_append_27 (by decide) ?_
    first | refine z_iaddN (pc := 28) (by with_reducible rfl) (by with_reducible rfl) dX5_append_28 ?_ | refine z_iadd (pc := 28) dX5_append_28 ?_
    refine z_putI (pc := 29) dX5_append_29 f_RX5_15 (by assumption) rfl ?_
    refine z_aload_n (pc := 32) dX5_append_32 rfl rfl ?_
    refine z_getIv (pc := 33) dX5_append_33 f_RX5_15 (by assumption) rfl (by first | assumption | exact zup_v (by omega) v0 | exact zup_s _ _ _ _ | rfl) ?_
    refine z_iret (pc := 36) dX5_append_36 rfl ?_
    first | exact ⟨Or.inl ⟨rfl, by omega, rfl⟩, rfl⟩ | exact ⟨Or.inr ⟨rfl, by omega, rfl⟩, rfl⟩ | fail
  · skip
    refine z_bipush (pc := 9) (v := -4) dX5_append_9 (by decide) ?_
    refine z_iret (pc := 11) dX5_append_11 rfl ?_
    first | exact ⟨Or.inl ⟨rfl, by omega, rfl⟩, rfl⟩ | exact ⟨Or.inr ⟨rfl, by omega, rfl⟩, rfl⟩ | fail
set_option maxHeartbeats 2000000 in
set_option maxRecDepth 20000 in
theorem c_X5_sign {lay : List zL} {I : zI} {J : zJ} {a len : Nat} {tx : Nat → Nat} (hX : kX lay a) (hV : vX I a len tx) {p : Nat} (hp : p < 2147483648) : zMet lay MX5_sign 0 [.ref a, .int (nI p)] I J (fun r I' J' => ((r = .int (nI (tx p)) ∧ p < len) ∨ (r = .int (-1) ∧ len ≤ p)) ∧ I = I' ∧ J = J') := by
  refine zMet_of (t := MX5_sign) (ls := [.ref a, .int (nI p)]) (by decide +kernel) (Nat.le_of_ble_eq_true rfl) rfl ?_
  obtain ⟨h1, h2⟩ := id hX
  obtain ⟨v0, v1, v2, v3⟩ := id hV
  refine z_iload_n (pc := 0) dX5_sign_0 rfl rfl ?_
  first | refine z_if_ltN (pc := 1) (tgt := 21) (by with_reducible rfl) dX5_sign_1 (by decide) (by omega) (fun hb1 => absurd hb1 (fun h => h)) (fun hb1 => ?_) | refine z_if_lt (pc := 1) (tgt := 21) dX5_sign_1 (by decide) (fun hb1 => absurd hb1 (fun h => h)) (fun hb1 => ?_)
  · skip
    refine z_iload_n (pc := 4) dX5_sign_4 rfl rfl ?_
    refine z_aload_n (pc := 5) dX5_sign_5 rfl rfl ?_
    refine z_getIv (pc := 6) dX5_sign_6 f_RX5_15 (by assumption) rfl (by first | assumption | exact v2 _ (by omega) | rfl) ?_
    first | refine z_icmp_geN (pc := 9) (tgt := 21) (by with_reducible rfl) (by with_reducible rfl) dX5_sign_9 (by decide) (by omega) (by omega) (fun hb9 => ?_) (fun hb9 => ?_) | refine z_icmp_ge (pc := 9) (tgt := 21) dX5_sign_9 (by decide) (fun hb9 => ?_) (fun hb9 => ?_)
    · skip
      refine z_iconst (pc := 21) (v := -1) dX5_sign_21 (by decide) ?_
      refine z_iret (pc := 22) dX5_sign_22 rfl ?_
      first | exact ⟨Or.inl ⟨rfl, by omega⟩, rfl, rfl⟩ | exact ⟨Or.inr ⟨rfl, by omega⟩, rfl, rfl⟩ | fail
    · skip
      refine z_aload_n (pc := 12) dX5_sign_12 rfl rfl ?_
      refine z_getR (pc := 13) dX5_sign_13 f_RX5_9 (by assumption) rfl ?_
      refine z_iload_n (pc := 16) dX5_sign_16 rfl rfl ?_
      refine z_ialoadv (pc := 17) dX5_sign_17 (by assumption) (by with_reducible rfl) (by omega) (by decide) (by first | assumption | exact v2 _ (by omega) | rfl) ?_
      refine z_goto (pc := 18) (tgt := 22) dX5_sign_18 (by decide) ?_
      refine z_iret (pc := 22) dX5_sign_22 rfl ?_
      first | exact ⟨Or.inl ⟨rfl, by omega⟩, rfl, rfl⟩ | exact ⟨Or.inr ⟨rfl, by omega⟩, rfl, rfl⟩ | fail
set_option maxHeartbeats 2000000 in
set_option maxRecDepth 20000 in
theorem c_X5_digit {lay : List zL} {I : zI} {J : zJ} {a len : Nat} {tx : Nat → Nat} (hX : kX lay a) (hV : vX I a len tx) {p : Nat} (hp : p < 2147483648) : zMet lay MX5_digit 1 [.ref a, .int (nI p)] I J (fun r I' J' => ((r = .int (nI (tx p - 48)) ∧ zisb len tx p = true) ∨ (r = .int (-1) ∧ zisb len tx p = false)) ∧ I = I' ∧ J = J') := by
  refine zMet_of (t := MX5_digit) (ls := [.ref a, .int (nI p), .null]) (by decide +kernel) (Nat.le_of_ble_eq_true rfl) rfl ?_
  obtain ⟨h1, h2⟩ := id hX
  obtain ⟨v0, v1, v2, v3⟩ := id hV
  refine z_aload_n (pc := 0) dX5_digit_0 rfl rfl ?_
  refine z_iload_n (pc := 1) dX5_digit_1 rfl rfl ?_
  refine z_callV (pc := 2) (c_X5_sign (by assumption) (by assumption) (by omega)) dX5_digit_2 l_RX5_19 m_MX5_sign n_MX5_sign e_MX5_sign rfl (by omega) (by assumption) rfl rfl (Nat.le_of_ble_eq_true rfl) ?_
  rintro _ _ _ ⟨⟨rfl, hs⟩ | ⟨rfl, hs⟩, rfl, rfl⟩
  · have h127 := v3 _ hs
    try dsimp only [zov, Option.toList, List.cons_append, List.nil_append]
    refine z_istore_n (pc := 5) dX5_digit_5 rfl (by decide) rfl ?_
    try dsimp only [zst1, zst2, zk]
    refine z_iload_n (pc := 6) dX5_digit_6 rfl rfl ?_
    refine z_bipush (pc := 7) (v := nI 48) dX5_digit_7 (by decide) ?_
    first | refine z_icmp_ltN (pc := 9) (tgt := 25) (by with_reducible rfl) (by with_reducible rfl) dX5_digit_9 (by decide) (by omega) (by omega) (fun hb9 => ?_) (fun hb9 => ?_) | refine z_icmp_lt (pc := 9) (tgt := 25) dX5_digit_9 (by decide) (fun hb9 => ?_) (fun hb9 => ?_)
    · skip
      refine z_iconst (pc := 25) (v := -1) dX5_digit_25 (by decide) ?_
      refine z_iret (pc := 26) dX5_digit_26 rfl ?_
      first | exact ⟨Or.inl ⟨rfl, decide_eq_true (by omega)⟩, rfl, rfl⟩ | exact ⟨Or.inr ⟨rfl, decide_eq_false (by omega)⟩, rfl, rfl⟩ | exact absurd hb9 (by decide) | fail
    · skip
      refine z_iload_n (pc := 12) dX5_digit_12 rfl rfl ?_
      refine z_bipush (pc := 13) (v := nI 57) dX5_digit_13 (by decide) ?_
      first | refine z_icmp_gtN (pc := 15) (tgt := 25) (by with_reducible rfl) (by with_reducible rfl) dX5_digit_15 (by decide) (by omega) (by omega) (fun hb15 => ?_) (fun hb15 => ?_) | refine z_icmp_gt (pc := 15) (tgt := 25) dX5_digit_15 (by decide) (fun hb15 => ?_) (fun hb15 => ?_)
      · skip
        refine z_iconst (pc := 25) (v := -1) dX5_digit_25 (by decide) ?_
        refine z_iret (pc := 26) dX5_digit_26 rfl ?_
        first | exact ⟨Or.inl ⟨rfl, decide_eq_true (by omega)⟩, rfl, rfl⟩ | exact ⟨Or.inr ⟨rfl, decide_eq_false (by omega)⟩, rfl, rfl⟩ | exact absurd hb9 (by decide) | fail
      · skip
        refine z_iload_n (pc := 18) dX5_digit_18 rfl rfl ?_
        refine z_bipush (pc := 19) (v := nI 48) dX5_digit_19 (by decide) ?_
        first | refine z_isubN (pc := 21) (by with_reducible rfl) (by with_reducible rfl) dX5_digit_21 (by omega) ?_ | refine z_isub (pc := 21) dX5_digit_21 ?_
        refine z_goto (pc := 22) (tgt := 26) dX5_digit_22 (by decide) ?_
        refine z_iret (pc := 26) dX5_digit_26 rfl ?_
        first | exact ⟨Or.inl ⟨rfl, decide_eq_true (by omega)⟩, rfl, rfl⟩ | exact ⟨Or.inr ⟨rfl, decide_eq_false (by omega)⟩, rfl, rfl⟩ | exact absurd hb9 (by decide) | fail
  · skip
    try dsimp only [zov, Option.toList, List.cons_append, List.nil_append]
    refine z_istore_n (pc := 5) dX5_digit_5 rfl (by decide) rfl ?_
    try dsimp only [zst1, zst2, zk]
    refine z_iload_n (pc := 6) dX5_digit_6 rfl rfl ?_
    refine z_bipush (pc := 7) (v := nI 48) dX5_digit_7 (by decide) ?_
    first | refine z_icmp_ltN (pc := 9) (tgt := 25) (by with_reducible rfl) (by with_reducible rfl) dX5_digit_9 (by decide) (by omega) (by omega) (fun hb9 => ?_) (fun hb9 => ?_) | refine z_icmp_lt (pc := 9) (tgt := 25) dX5_digit_9 (by decide) (fun hb9 => ?_) (fun hb9 => ?_)
    · skip
      refine z_iconst (pc := 25) (v := -1) dX5_digit_25 (by decide) ?_
      refine z_iret (pc := 26) dX5_digit_26 rfl ?_
      first | exact ⟨Or.inl ⟨rfl, decide_eq_true (by omega)⟩, rfl, rfl⟩ | exact ⟨Or.inr ⟨rfl, decide_eq_false (by omega)⟩, rfl, rfl⟩ | exact absurd hb9 (by decide) | fail
    · skip
      refine z_iload_n (pc := 12) dX5_digit_12 rfl rfl ?_
      refine z_bipush (pc := 13) (v := nI 57) dX5_digit_13 (by decide) ?_
      first | refine z_icmp_gtN (pc := 15) (tgt := 25) (by with_reducible rfl) (by with_reducible rfl) dX5_digit_15 (by decide) (by omega) (by omega) (fun hb15 => ?_) (fun hb15 => ?_) | refine z_icmp_gt (pc := 15) (tgt := 25) dX5_digit_15 (by decide) (fun hb15 => ?_) (fun hb15 => ?_)
      · skip
        refine z_iconst (pc := 25) (v := -1) dX5_digit_25 (by decide) ?_
        refine z_iret (pc := 26) dX5_digit_26 rfl ?_
        first | exact ⟨Or.inl ⟨rfl, decide_eq_true (by omega)⟩, rfl, rfl⟩ | exact ⟨Or.inr ⟨rfl, decide_eq_false (by omega)⟩, rfl, rfl⟩ | exact absurd hb9 (by decide) | fail
      · skip
        refine z_iload_n (pc := 18) dX5_digit_18 rfl rfl ?_
        refine z_bipush (pc := 19) (v := nI 48) dX5_digit_19 (by decide) ?_
        first | refine z_isubN (pc := 21) (by with_reducible rfl) (by with_reducible rfl) dX5_digit_21 (by omega) ?_ | refine z_isub (pc := 21) dX5_digit_21 ?_
        refine z_goto (pc := 22) (tgt := 26) dX5_digit_22 (by decide) ?_
        refine z_iret (pc := 26) dX5_digit_26 rfl ?_
        first | exact ⟨Or.inl ⟨rfl, decide_eq_true (by omega)⟩, rfl, rfl⟩ | exact ⟨Or.inr ⟨rfl, decide_eq_false (by omega)⟩, rfl, rfl⟩ | exact absurd hb9 (by decide) | fail
set_option maxHeartbeats 2000000 in
set_option maxRecDepth 20000 in
theorem c_X5_number {lay : List zL} {I : zI} {J : zJ} {a len : Nat} {tx : Nat → Nat} (hX : kX lay a) (hV : vX I a len tx) {p e : Nat} (hp : p < 1000) (he : e ≤ p + 2) (hD : ∀ k, p ≤ k → k < e → zisb len tx k = true) : zMet lay MX5_number 2 [.ref a, .int (nI p), .int (nI e)] I J (fun r I' J' => ((r = .int (-1) ∧ e ≤ p) ∨ (r = .int (nI (tx p - 48)) ∧ e = p + 1) ∨ (r = .int (nI (10 * (tx p - 48) + (tx (p + 1) - 48))) ∧ e = p + 2)) ∧ I = I' ∧ J = J') := by
  refine zMet_of (t := MX5_number) (ls := [.ref a, .int (nI p), .int (nI e)]) (by decide +kernel) (Nat.le_of_ble_eq_true rfl) rfl ?_
  obtain ⟨h1, h2⟩ := id hX
  obtain ⟨v0, v1, v2, v3⟩ := id hV
  refine z_iload_n (pc := 0) dX5_number_0 rfl rfl ?_
  refine z_iload_n (pc := 1) dX5_number_1 rfl rfl ?_
  first | refine z_icmp_ltN (pc := 2) (tgt := 7) (by with_reducible rfl) (by with_reducible rfl) dX5_number_2 (by decide) (by omega) (by omega) (fun hb2 => ?_) (fun hb2 => ?_) | refine z_icmp_lt (pc := 2) (tgt := 7) dX5_number_2 (by decide) (fun hb2 => ?_) (fun hb2 => ?_)
  · skip
    refine z_iload_n (pc := 7) dX5_number_7 rfl rfl ?_
    refine z_iconst (pc := 8) (v := nI 1) dX5_number_8 (by decide) ?_
    first | refine z_iaddN (pc := 9) (by with_reducible rfl) (by with_reducible rfl) dX5_number_9 ?_ | refine z_iadd (pc := 9) dX5_number_9 ?_
    refine z_iload_n (pc := 10) dX5_number_10 rfl rfl ?_
    first | refine z_icmp_geN (pc := 11) (tgt := 33) (by with_reducible rfl) (by with_reducible rfl) dX5_number_11 (by decide) (by omega) (by omega) (fun hb11 => ?_) (fun hb11 => ?_) | refine z_icmp_ge (pc := 11) (tgt := 33) dX5_number_11 (by decide) (fun hb11 => ?_) (fun hb11 => ?_)
    · skip
      refine z_aload_n (pc := 33) dX5_number_33 rfl rfl ?_
      refine z_iload_n (pc := 34) dX5_number_34 rfl rfl ?_
      refine z_callV (pc := 35) (c_X5_digit (by assumption) (by assumption) (by omega)) dX5_number_35 l_RX5_23 m_MX5_digit n_MX5_digit e_MX5_digit rfl (by omega) (by assumption) rfl rfl (Nat.le_of_ble_eq_true rfl) ?_
      rintro _ _ _ ⟨⟨rfl, hd⟩ | ⟨rfl, hd⟩, rfl, rfl⟩
      · skip
        try dsimp only [zov, Option.toList, List.cons_append, List.nil_append]
        refine z_iret (pc := 38) dX5_number_38 rfl ?_
        first | exact ⟨Or.inl ⟨rfl, by omega⟩, rfl, rfl⟩ | exact ⟨Or.inr (Or.inl ⟨rfl, by omega⟩), rfl, rfl⟩ | exact ⟨Or.inr (Or.inr ⟨rfl, by omega⟩), rfl, rfl⟩ | fail
      · first | exact absurd (hD p (by omega) (by omega)) (by rw [hd]; decide) | exact absurd (hD (p + 1) (by omega) (by omega)) (by rw [hd]; decide) | fail
    · skip
      refine z_bipush (pc := 14) (v := nI 10) dX5_number_14 (by decide) ?_
      refine z_aload_n (pc := 16) dX5_number_16 rfl rfl ?_
      refine z_iload_n (pc := 17) dX5_number_17 rfl rfl ?_
      refine z_callV (pc := 18) (c_X5_digit (by assumption) (by assumption) (by omega)) dX5_number_18 l_RX5_23 m_MX5_digit n_MX5_digit e_MX5_digit rfl (by omega) (by assumption) rfl rfl (Nat.le_of_ble_eq_true rfl) ?_
      rintro _ _ _ ⟨⟨rfl, hd⟩ | ⟨rfl, hd⟩, rfl, rfl⟩
      · skip
        try dsimp only [zov, Option.toList, List.cons_append, List.nil_append]
        first | refine z_imulN (pc := 21) (by with_reducible rfl) (by with_reducible rfl) dX5_number_21 ?_ | refine z_imul (pc := 21) dX5_number_21 ?_
        refine z_aload_n (pc := 22) dX5_number_22 rfl rfl ?_
        refine z_iload_n (pc := 23) dX5_number_23 rfl rfl ?_
        refine z_iconst (pc := 24) (v := nI 1) dX5_number_24 (by decide) ?_
        first | refine z_iaddN (pc := 25) (by with_reducible rfl) (by with_reducible rfl) dX5_number_25 ?_ | refine z_iadd (pc := 25) dX5_number_25 ?_
        refine z_callV (pc := 26) (c_X5_digit (by assumption) (by assumption) (by omega)) dX5_number_26 l_RX5_23 m_MX5_digit n_MX5_digit e_MX5_digit rfl (by omega) (by assumption) rfl rfl (Nat.le_of_ble_eq_true rfl) ?_
        rintro _ _ _ ⟨⟨rfl, hd⟩ | ⟨rfl, hd⟩, rfl, rfl⟩
        · skip
          try dsimp only [zov, Option.toList, List.cons_append, List.nil_append]
          first | refine z_iaddN (pc := 29) (by with_reducible rfl) (by with_reducible rfl) dX5_number_29 ?_ | refine z_iadd (pc := 29) dX5_number_29 ?_
          refine z_goto (pc := 30) (tgt := 38) dX5_number_30 (by decide) ?_
          refine z_iret (pc := 38) dX5_number_38 rfl ?_
          first | exact ⟨Or.inl ⟨rfl, by omega⟩, rfl, rfl⟩ | exact ⟨Or.inr (Or.inl ⟨rfl, by omega⟩), rfl, rfl⟩ | exact ⟨Or.inr (Or.inr ⟨rfl, by omega⟩), rfl, rfl⟩ | fail
        · first | exact absurd (hD p (by omega) (by omega)) (by rw [hd]; decide) | exact absurd (hD (p + 1) (by omega) (by omega)) (by rw [hd]; decide) | fail
      · first | exact absurd (hD p (by omega) (by omega)) (by rw [hd]; decide) | exact absurd (hD (p + 1) (by omega) (by omega)) (by rw [hd]; decide) | fail
  · skip
    refine z_iconst (pc := 5) (v := -1) dX5_number_5 (by decide) ?_
    refine z_iret (pc := 6) dX5_number_6 rfl ?_
    first | exact ⟨Or.inl ⟨rfl, by omega⟩, rfl, rfl⟩ | exact ⟨Or.inr (Or.inl ⟨rfl, by omega⟩), rfl, rfl⟩ | exact ⟨Or.inr (Or.inr ⟨rfl, by omega⟩), rfl, rfl⟩ | fail
set_option maxHeartbeats 2000000 in
set_option maxRecDepth 20000 in
theorem l_X5_digitsEnd {lay : List zL} {Q : Value → zI → zJ → Prop} {I : zI} {J : zJ} {d : Nat} {a len : Nat} {tx : Nat → Nat} (hX : kX lay a) (hV : vX I a len tx) {p f : Nat} (hp : p < 1000) (hf : f < 10) : ∀ (m k z : Nat) (w : Value), k + m < 10 → z = k + m → (f ≤ k + zrun (zisb len tx) m (p + k) → Q (.int (nI (p + (k + zrun (zisb len tx) m (p + k))))) I J) → (¬ f ≤ k + zrun (zisb len tx) m (p + k) → Q (.int (-1 - nI (p + (k + zrun (zisb len tx) m (p + k))))) I J) → Z lay MX5_digitsEnd (d + 2) 3 [.ref a, .int (nI p), .int (nI f), .int (nI z), .int (nI k), w] [] I J Q := by
  obtain ⟨h1, h2⟩ := id hX
  obtain ⟨v0, v1, v2, v3⟩ := id hV
  intro m
  induction m with
  | zero =>
    intro k z w hk hz hq hn
    refine z_iload (pc := 3) dX5_digitsEnd_3 rfl ?_
    refine z_iload_n (pc := 5) dX5_digitsEnd_5 rfl rfl ?_
    first | refine z_icmp_geN (pc := 6) (tgt := 26) (by with_reducible rfl) (by with_reducible rfl) dX5_digitsEnd_6 (by decide) (by omega) (by omega) (fun hb6 => ?_) (fun hb6 => absurd hb6 (by omega)) | refine z_icmp_ge (pc := 6) (tgt := 26) dX5_digitsEnd_6 (by decide) (fun hb6 => ?_) (fun hb6 => absurd hb6 (by omega))
    · skip
      refine z_iload_n (pc := 26) dX5_digitsEnd_26 rfl rfl ?_
      refine z_iload (pc := 27) dX5_digitsEnd_27 rfl ?_
      first | refine z_iaddN (pc := 29) (by with_reducible rfl) (by with_reducible rfl) dX5_digitsEnd_29 ?_ | refine z_iadd (pc := 29) dX5_digitsEnd_29 ?_
      refine z_istore (pc := 30) dX5_digitsEnd_30 (by decide) rfl ?_
      try dsimp only [zst1, zst2, zk]
      refine z_iload (pc := 32) dX5_digitsEnd_32 rfl ?_
      refine z_iload_n (pc := 34) dX5_digitsEnd_34 rfl rfl ?_
      first | refine z_icmp_geN (pc := 35) (tgt := 45) (by with_reducible rfl) (by with_reducible rfl) dX5_digitsEnd_35 (by decide) (by omega) (by omega) (fun hb35 => ?_) (fun hb35 => ?_) | refine z_icmp_ge (pc := 35) (tgt := 45) dX5_digitsEnd_35 (by decide) (fun hb35 => ?_) (fun hb35 => ?_)
      · skip
        refine z_iload (pc := 45) dX5_digitsEnd_45 rfl ?_
        refine z_iret (pc := 47) dX5_digitsEnd_47 rfl ?_
        exact hq (show f ≤ k + 0 by omega)
      · skip
        refine z_iconst (pc := 38) (v := -1) dX5_digitsEnd_38 (by decide) ?_
        refine z_iload (pc := 39) dX5_digitsEnd_39 rfl ?_
        first | refine z_isubN (pc := 41) (by with_reducible rfl) (by with_reducible rfl) dX5_digitsEnd_41 (by omega) ?_ | refine z_isub (pc := 41) dX5_digitsEnd_41 ?_
        refine z_goto (pc := 42) (tgt := 47) dX5_digitsEnd_42 (by decide) ?_
        refine z_iret (pc := 47) dX5_digitsEnd_47 rfl ?_
        exact hn (show ¬ f ≤ k + 0 by omega)
  | succ m ih =>
    intro k z w hk hz hq hn
    refine z_iload (pc := 3) dX5_digitsEnd_3 rfl ?_
    refine z_iload_n (pc := 5) dX5_digitsEnd_5 rfl rfl ?_
    first | refine z_icmp_geN (pc := 6) (tgt := 26) (by with_reducible rfl) (by with_reducible rfl) dX5_digitsEnd_6 (by decide) (by omega) (by omega) (fun hb6 => absurd hb6 (by omega)) (fun hb6 => ?_) | refine z_icmp_ge (pc := 6) (tgt := 26) dX5_digitsEnd_6 (by decide) (fun hb6 => absurd hb6 (by omega)) (fun hb6 => ?_)
    · skip
      refine z_aload_n (pc := 9) dX5_digitsEnd_9 rfl rfl ?_
      refine z_iload_n (pc := 10) dX5_digitsEnd_10 rfl rfl ?_
      refine z_iload (pc := 11) dX5_digitsEnd_11 rfl ?_
      first | refine z_iaddN (pc := 13) (by with_reducible rfl) (by with_reducible rfl) dX5_digitsEnd_13 ?_ | refine z_iadd (pc := 13) dX5_digitsEnd_13 ?_
      refine z_callV (pc := 14) (c_X5_digit (by assumption) (by assumption) (by omega)) dX5_digitsEnd_14 l_RX5_23 m_MX5_digit n_MX5_digit e_MX5_digit rfl (by omega) (by assumption) rfl rfl (Nat.le_of_ble_eq_true rfl) ?_
      rintro _ _ _ ⟨⟨rfl, hd⟩ | ⟨rfl, hd⟩, rfl, rfl⟩
      · have h127 := v3 (p + k) (of_decide_eq_true hd).1
        try dsimp only [zov, Option.toList, List.cons_append, List.nil_append]
        first | refine z_if_ltN (pc := 17) (tgt := 26) (by with_reducible rfl) dX5_digitsEnd_17 (by decide) (by omega) (fun hb17 => absurd hb17 (by decide)) (fun hb17 => ?_) | refine z_if_lt (pc := 17) (tgt := 26) dX5_digitsEnd_17 (by decide) (fun hb17 => absurd hb17 (by decide)) (fun hb17 => ?_)
        · skip
          first | refine z_iincN (pc := 20) (c := 1) dX5_digitsEnd_20 rfl (by with_reducible rfl) (by decide) (by decide) rfl ?_ | refine z_iinc (pc := 20) dX5_digitsEnd_20 rfl rfl (by decide) rfl ?_
          try dsimp only [zst1, zst2, zk]
          refine z_goto (pc := 23) (tgt := 3) dX5_digitsEnd_23 (by decide) ?_
          have e9 : k + 1 + zrun (zisb len tx) m (p + (k + 1)) = k + zrun (zisb len tx) (m + 1) (p + k) := by simp only [zrun]; rw [if_pos hd, show p + (k + 1) = p + k + 1 by omega]; omega
          exact ih (k + 1) z w (by omega) (by omega) (fun h => by rw [e9] at h ⊢; exact hq h) (fun h => by rw [e9] at h ⊢; exact hn h)
      · skip
        try dsimp only [zov, Option.toList, List.cons_append, List.nil_append]
        first | refine z_if_ltN (pc := 17) (tgt := 26) (by with_reducible rfl) dX5_digitsEnd_17 (by decide) (by omega) (fun hb17 => ?_) (fun hb17 => absurd hb17 (by decide)) | refine z_if_lt (pc := 17) (tgt := 26) dX5_digitsEnd_17 (by decide) (fun hb17 => ?_) (fun hb17 => absurd hb17 (by decide))
        · skip
          refine z_iload_n (pc := 26) dX5_digitsEnd_26 rfl rfl ?_
          refine z_iload (pc := 27) dX5_digitsEnd_27 rfl ?_
          first | refine z_iaddN (pc := 29) (by with_reducible rfl) (by with_reducible rfl) dX5_digitsEnd_29 ?_ | refine z_iadd (pc := 29) dX5_digitsEnd_29 ?_
          refine z_istore (pc := 30) dX5_digitsEnd_30 (by decide) rfl ?_
          try dsimp only [zst1, zst2, zk]
          refine z_iload (pc := 32) dX5_digitsEnd_32 rfl ?_
          refine z_iload_n (pc := 34) dX5_digitsEnd_34 rfl rfl ?_
          first | refine z_icmp_geN (pc := 35) (tgt := 45) (by with_reducible rfl) (by with_reducible rfl) dX5_digitsEnd_35 (by decide) (by omega) (by omega) (fun hb35 => ?_) (fun hb35 => ?_) | refine z_icmp_ge (pc := 35) (tgt := 45) dX5_digitsEnd_35 (by decide) (fun hb35 => ?_) (fun hb35 => ?_)
          · skip
            refine z_iload (pc := 45) dX5_digitsEnd_45 rfl ?_
            refine z_iret (pc := 47) dX5_digitsEnd_47 rfl ?_
            have e9 : zrun (zisb len tx) (m + 1) (p + k) = 0 := by simp only [zrun]; rw [if_neg (by rw [hd]; decide)]
            rw [e9, Nat.add_zero] at hq hn
            exact hq (by omega)
          · skip
            refine z_iconst (pc := 38) (v := -1) dX5_digitsEnd_38 (by decide) ?_
            refine z_iload (pc := 39) dX5_digitsEnd_39 rfl ?_
            first | refine z_isubN (pc := 41) (by with_reducible rfl) (by with_reducible rfl) dX5_digitsEnd_41 (by omega) ?_ | refine z_isub (pc := 41) dX5_digitsEnd_41 ?_
            refine z_goto (pc := 42) (tgt := 47) dX5_digitsEnd_42 (by decide) ?_
            refine z_iret (pc := 47) dX5_digitsEnd_47 rfl ?_
            have e9 : zrun (zisb len tx) (m + 1) (p + k) = 0 := by simp only [zrun]; rw [if_neg (by rw [hd]; decide)]
            rw [e9, Nat.add_zero] at hq hn
            exact hn (by omega)
theorem zco_1 {P : Nat → Bool} {p f m : Nat} (h : f ≤ zrun P m p) : zco (zde P p f m) = nI (p + zrun P m p) := by
  unfold zco zde
  rw [if_pos (decide_eq_true h)]
theorem zco_2 {P : Nat → Bool} {p f m : Nat} (h : ¬ f ≤ zrun P m p) : zco (zde P p f m) = -1 - nI (p + zrun P m p) := by
  unfold zco zde
  rw [if_neg (by rw [decide_eq_false h]; exact Bool.false_ne_true)]
set_option maxHeartbeats 2000000 in
set_option maxRecDepth 20000 in
theorem c_X5_digitsEnd {lay : List zL} {I : zI} {J : zJ} {a len : Nat} {tx : Nat → Nat} (hX : kX lay a) (hV : vX I a len tx) {p f m : Nat} (hp : p < 1000) (hf : f < 10) (hm : m < 10) : zMet lay MX5_digitsEnd 2 [.ref a, .int (nI p), .int (nI f), .int (nI m)] I J (fun r I' J' => r = .int (zco (zde (zisb len tx) p f m)) ∧ I = I' ∧ J = J') := by
  refine zMet_of (t := MX5_digitsEnd) (ls := [.ref a, .int (nI p), .int (nI f), .int (nI m), .null, .null]) (by decide +kernel) (Nat.le_of_ble_eq_true rfl) rfl ?_
  obtain ⟨h1, h2⟩ := id hX
  obtain ⟨v0, v1, v2, v3⟩ := id hV
  refine z_iconst (pc := 0) (v := nI 0) dX5_digitsEnd_0 (by decide) ?_
  refine z_istore (pc := 1) dX5_digitsEnd_1 (by decide) rfl ?_
  try dsimp only [zst1, zst2, zk]
  refine l_X5_digitsEnd (d := 0) hX hV hp hf m 0 m .null (by omega) (by omega) (fun h => ⟨?_, rfl, rfl⟩) (fun h => ⟨?_, rfl, rfl⟩)
  · rw [Nat.zero_add, Nat.add_zero] at h ⊢
    rw [zco_1 h]
  · rw [Nat.zero_add, Nat.add_zero] at h ⊢
    rw [zco_2 h]
