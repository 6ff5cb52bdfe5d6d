/-! ===== the model's calls: reading ===== -/
set_option maxHeartbeats 2000000 in
set_option maxRecDepth 20000 in
theorem c_X10_isDigit {lay : List zL} {I : zI} {J : zJ} {len : Nat} {tx : Nat → Nat} (hM : kM lay) (hX : vMT I len tx) {a : Nat} (ha : a < 1000) : zMet lay MX10_isDigit 1 [.ref 79, .int (nI a)] I J (fun r I' J' => ((r = .int (nI 1) ∧ zisb len tx a = true) ∨ (r = .int (nI 0) ∧ zisb len tx a = false)) ∧ I = I' ∧ J = J') := by
  refine zMet_of (t := MX10_isDigit) (ls := [.ref 79, .int (nI a)]) (by decide +kernel) (Nat.le_of_ble_eq_true rfl) rfl ?_
  obtain ⟨mo, m80, m81, m82, m83, m84, m85, m86, m87, m88, m89, m90, m91, m92, m93, m94, m95, m96⟩ := id hM
  obtain ⟨x1, x2, x3, x4⟩ := id hX
  refine z_iload_n (pc := 0) dX10_isDigit_0 rfl rfl ?_
  refine z_aload_n (pc := 1) dX10_isDigit_1 rfl rfl ?_
  refine z_getIv (pc := 2) dX10_isDigit_2 f_RX10_107 (by assumption) rfl (by first | assumption | exact x3 a (by omega) | rfl) ?_
  first | refine z_icmp_geN (pc := 5) (tgt := 31) (by with_reducible rfl) (by with_reducible rfl) dX10_isDigit_5 (by decide) (by omega) (by omega) (fun hb5 => ?_) (fun hb5 => ?_) | refine z_icmp_ge (pc := 5) (tgt := 31) dX10_isDigit_5 (by decide) (fun hb5 => ?_) (fun hb5 => ?_)
  · skip
    refine z_iconst (pc := 31) (v := nI 0) dX10_isDigit_31 (by decide) ?_
    refine z_zret (pc := 32) dX10_isDigit_32 rfl (by first | decide | assumption) ?_
    first
      | exact ⟨Or.inl ⟨rfl, decide_eq_true ⟨by omega, by omega, by omega⟩⟩, rfl, rfl⟩
      | exact ⟨Or.inr ⟨rfl, decide_eq_false (by omega)⟩, rfl, rfl⟩
      | fail
  · skip
    refine z_aload_n (pc := 8) dX10_isDigit_8 rfl rfl ?_
    refine z_getR (pc := 9) dX10_isDigit_9 f_RX10_21 (by assumption) rfl ?_
    refine z_iload_n (pc := 12) dX10_isDigit_12 rfl rfl ?_
    refine z_ialoadv (pc := 13) dX10_isDigit_13 (by assumption) (by with_reducible rfl) (by omega) (by decide) (by first | assumption | exact x3 a (by omega) | rfl) ?_
    have h127 := x4 a (by omega)
    first | refine z_i2lN (pc := 14) (by with_reducible rfl) dX10_isDigit_14 (by omega) ?_ | refine z_i2l (pc := 14) dX10_isDigit_14 rfl ?_
    refine z_ldc2 (pc := 15) (v := lN 48) dX10_isDigit_15 q_RX10_111 ?_
    refine z_ldc2 (pc := 18) (v := lN 57) dX10_isDigit_18 q_RX10_113 ?_
    refine z_callS (pc := 21) (c_X10_withinN (by omega) (by omega) (by omega)) dX10_isDigit_21 l_RX10_68 m_MX10_within s_MX10_within rfl (by omega) rfl (Nat.le_of_ble_eq_true rfl) ?_
    rintro _ _ _ ⟨⟨rfl, hc⟩ | ⟨rfl, hc⟩, rfl, rfl⟩
    · skip
      try dsimp only [zov, Option.toList, List.cons_append, List.nil_append]
      first | refine z_if_eqN (pc := 24) (tgt := 31) (by with_reducible rfl) dX10_isDigit_24 (by decide) (by omega) (fun hb24 => absurd hb24 (by decide)) (fun hb24 => ?_) | refine z_if_eq (pc := 24) (tgt := 31) dX10_isDigit_24 (by decide) (fun hb24 => absurd hb24 (by decide)) (fun hb24 => ?_)
      · skip
        refine z_iconst (pc := 27) (v := nI 1) dX10_isDigit_27 (by decide) ?_
        refine z_goto (pc := 28) (tgt := 32) dX10_isDigit_28 (by decide) ?_
        refine z_zret (pc := 32) dX10_isDigit_32 rfl (by first | decide | assumption) ?_
        first
          | exact ⟨Or.inl ⟨rfl, decide_eq_true ⟨by omega, by omega, by omega⟩⟩, rfl, rfl⟩
          | exact ⟨Or.inr ⟨rfl, decide_eq_false (by omega)⟩, rfl, rfl⟩
          | fail
    · skip
      try dsimp only [zov, Option.toList, List.cons_append, List.nil_append]
      first | refine z_if_eqN (pc := 24) (tgt := 31) (by with_reducible rfl) dX10_isDigit_24 (by decide) (by omega) (fun hb24 => ?_) (fun hb24 => absurd hb24 (by decide)) | refine z_if_eq (pc := 24) (tgt := 31) dX10_isDigit_24 (by decide) (fun hb24 => ?_) (fun hb24 => absurd hb24 (by decide))
      · skip
        refine z_iconst (pc := 31) (v := nI 0) dX10_isDigit_31 (by decide) ?_
        refine z_zret (pc := 32) dX10_isDigit_32 rfl (by first | decide | assumption) ?_
        first
          | exact ⟨Or.inl ⟨rfl, decide_eq_true ⟨by omega, by omega, by omega⟩⟩, rfl, rfl⟩
          | exact ⟨Or.inr ⟨rfl, decide_eq_false (by omega)⟩, rfl, rfl⟩
          | fail
set_option maxHeartbeats 2000000 in
set_option maxRecDepth 20000 in
theorem c_X10_isKind {lay : List zL} {I : zI} {J : zJ} {a : Nat} (ha : a < 1000) : zMet lay MX10_isKind 0 [.int (nI a)] I J (fun r I' J' => ((r = .int (nI 1) ∧ (a = 115 ∨ a = 110 ∨ a = 107 ∨ a = 109 ∨ a = 120)) ∨ (r = .int (nI 0) ∧ ¬ (a = 115 ∨ a = 110 ∨ a = 107 ∨ a = 109 ∨ a = 120))) ∧ I = I' ∧ J = J') := by
  refine zMet_of (t := MX10_isKind) (ls := [.int (nI a)]) (by decide +kernel) (Nat.le_of_ble_eq_true rfl) rfl ?_
  refine z_iload_n (pc := 0) dX10_isKind_0 rfl rfl ?_
  refine z_bipush (pc := 1) (v := nI 115) dX10_isKind_1 (by decide) ?_
  first | refine z_icmp_eqN (pc := 3) (tgt := 30) (by with_reducible rfl) (by with_reducible rfl) dX10_isKind_3 (by decide) (by omega) (by omega) (fun hb3 => ?_) (fun hb3 => ?_) | refine z_icmp_eq (pc := 3) (tgt := 30) dX10_isKind_3 (by decide) (fun hb3 => ?_) (fun hb3 => ?_)
  · skip
    refine z_iconst (pc := 30) (v := nI 1) dX10_isKind_30 (by decide) ?_
    refine z_goto (pc := 31) (tgt := 35) dX10_isKind_31 (by decide) ?_
    refine z_zret (pc := 35) dX10_isKind_35 rfl (by first | decide | assumption) ?_
    first
      | exact ⟨Or.inl ⟨rfl, by omega⟩, rfl, rfl⟩
      | exact ⟨Or.inr ⟨rfl, by omega⟩, rfl, rfl⟩
      | fail
  · skip
    refine z_iload_n (pc := 6) dX10_isKind_6 rfl rfl ?_
    refine z_bipush (pc := 7) (v := nI 110) dX10_isKind_7 (by decide) ?_
    first | refine z_icmp_eqN (pc := 9) (tgt := 30) (by with_reducible rfl) (by with_reducible rfl) dX10_isKind_9 (by decide) (by omega) (by omega) (fun hb9 => ?_) (fun hb9 => ?_) | refine z_icmp_eq (pc := 9) (tgt := 30) dX10_isKind_9 (by decide) (fun hb9 => ?_) (fun hb9 => ?_)
    · skip
      refine z_iconst (pc := 30) (v := nI 1) dX10_isKind_30 (by decide) ?_
      refine z_goto (pc := 31) (tgt := 35) dX10_isKind_31 (by decide) ?_
      refine z_zret (pc := 35) dX10_isKind_35 rfl (by first | decide | assumption) ?_
      first
        | exact ⟨Or.inl ⟨rfl, by omega⟩, rfl, rfl⟩
        | exact ⟨Or.inr ⟨rfl, by omega⟩, rfl, rfl⟩
        | fail
    · skip
      refine z_iload_n (pc := 12) dX10_isKind_12 rfl rfl ?_
      refine z_bipush (pc := 13) (v := nI 107) dX10_isKind_13 (by decide) ?_
      first | refine z_icmp_eqN (pc := 15) (tgt := 30) (by with_reducible rfl) (by with_reducible rfl) dX10_isKind_15 (by decide) (by omega) (by omega) (fun hb15 => ?_) (fun hb15 => ?_) | refine z_icmp_eq (pc := 15) (tgt := 30) dX10_isKind_15 (by decide) (fun hb15 => ?_) (fun hb15 => ?_)
      · skip
        refine z_iconst (pc := 30) (v := nI 1) dX10_isKind_30 (by decide) ?_
        refine z_goto (pc := 31) (tgt := 35) dX10_isKind_31 (by decide) ?_
        refine z_zret (pc := 35) dX10_isKind_35 rfl (by first | decide | assumption) ?_
        first
          | exact ⟨Or.inl ⟨rfl, by omega⟩, rfl, rfl⟩
          | exact ⟨Or.inr ⟨rfl, by omega⟩, rfl, rfl⟩
          | fail
      · skip
        refine z_iload_n (pc := 18) dX10_isKind_18 rfl rfl ?_
        refine z_bipush (pc := 19) (v := nI 109) dX10_isKind_19 (by decide) ?_
        first | refine z_icmp_eqN (pc := 21) (tgt := 30) (by with_reducible rfl) (by with_reducible rfl) dX10_isKind_21 (by decide) (by omega) (by omega) (fun hb21 => ?_) (fun hb21 => ?_) | refine z_icmp_eq (pc := 21) (tgt := 30) dX10_isKind_21 (by decide) (fun hb21 => ?_) (fun hb21 => ?_)
        · skip
          refine z_iconst (pc := 30) (v := nI 1) dX10_isKind_30 (by decide) ?_
          refine z_goto (pc := 31) (tgt := 35) dX10_isKind_31 (by decide) ?_
          refine z_zret (pc := 35) dX10_isKind_35 rfl (by first | decide | assumption) ?_
          first
            | exact ⟨Or.inl ⟨rfl, by omega⟩, rfl, rfl⟩
            | exact ⟨Or.inr ⟨rfl, by omega⟩, rfl, rfl⟩
            | fail
        · skip
          refine z_iload_n (pc := 24) dX10_isKind_24 rfl rfl ?_
          refine z_bipush (pc := 25) (v := nI 120) dX10_isKind_25 (by decide) ?_
          first | refine z_icmp_neN (pc := 27) (tgt := 34) (by with_reducible rfl) (by with_reducible rfl) dX10_isKind_27 (by decide) (by omega) (by omega) (fun hb27 => ?_) (fun hb27 => ?_) | refine z_icmp_ne (pc := 27) (tgt := 34) dX10_isKind_27 (by decide) (fun hb27 => ?_) (fun hb27 => ?_)
          · skip
            refine z_iconst (pc := 34) (v := nI 0) dX10_isKind_34 (by decide) ?_
            refine z_zret (pc := 35) dX10_isKind_35 rfl (by first | decide | assumption) ?_
            first
              | exact ⟨Or.inl ⟨rfl, by omega⟩, rfl, rfl⟩
              | exact ⟨Or.inr ⟨rfl, by omega⟩, rfl, rfl⟩
              | fail
          · skip
            refine z_iconst (pc := 30) (v := nI 1) dX10_isKind_30 (by decide) ?_
            refine z_goto (pc := 31) (tgt := 35) dX10_isKind_31 (by decide) ?_
            refine z_zret (pc := 35) dX10_isKind_35 rfl (by first | decide | assumption) ?_
            first
              | exact ⟨Or.inl ⟨rfl, by omega⟩, rfl, rfl⟩
              | exact ⟨Or.inr ⟨rfl, by omega⟩, rfl, rfl⟩
              | fail
def zdg (c : Nat) : Nat := if c = 120 then 0 else if c = 107 then 3 else 2
theorem zdg_x : zdg 120 = 0 := rfl
theorem zdg_k : zdg 107 = 3 := rfl
theorem zdg_o {c : Nat} (h : ¬ c = 120) (h2 : ¬ c = 107) : zdg c = 2 := by unfold zdg; rw [if_neg h, if_neg h2]
theorem zdg_le (c : Nat) : zdg c ≤ 3 := by unfold zdg; split; omega; split <;> omega
set_option maxHeartbeats 2000000 in
set_option maxRecDepth 20000 in
theorem c_X10_digitsOf {lay : List zL} {I : zI} {J : zJ} {a : Nat} (ha : a < 1000) : zMet lay MX10_digitsOf 0 [.int (nI a)] I J (fun r I' J' => r = .int (nI (zdg a)) ∧ I = I' ∧ J = J') := by
  refine zMet_of (t := MX10_digitsOf) (ls := [.int (nI a)]) (by decide +kernel) (Nat.le_of_ble_eq_true rfl) rfl ?_
  refine z_iload_n (pc := 0) dX10_digitsOf_0 rfl rfl ?_
  refine z_bipush (pc := 1) (v := nI 120) dX10_digitsOf_1 (by decide) ?_
  first | refine z_icmp_neN (pc := 3) (tgt := 10) (by with_reducible rfl) (by with_reducible rfl) dX10_digitsOf_3 (by decide) (by omega) (by omega) (fun hb3 => ?_) (fun hb3 => ?_) | refine z_icmp_ne (pc := 3) (tgt := 10) dX10_digitsOf_3 (by decide) (fun hb3 => ?_) (fun hb3 => ?_)
  · skip
    refine z_iload_n (pc := 10) dX10_digitsOf_10 rfl rfl ?_
    refine z_bipush (pc := 11) (v := nI 107) dX10_digitsOf_11 (by decide) ?_
    first | refine z_icmp_neN (pc := 13) (tgt := 20) (by with_reducible rfl) (by with_reducible rfl) dX10_digitsOf_13 (by decide) (by omega) (by omega) (fun hb13 => ?_) (fun hb13 => ?_) | refine z_icmp_ne (pc := 13) (tgt := 20) dX10_digitsOf_13 (by decide) (fun hb13 => ?_) (fun hb13 => ?_)
    · skip
      refine z_iconst (pc := 20) (v := nI 2) dX10_digitsOf_20 (by decide) ?_
      refine z_iret (pc := 21) dX10_digitsOf_21 rfl ?_
      first
        | (rw [show a = 120 by omega]; exact ⟨rfl, rfl, rfl⟩)
        | (rw [show a = 107 by omega]; exact ⟨rfl, rfl, rfl⟩)
        | (rw [zdg_o (by omega) (by omega)]; exact ⟨rfl, rfl, rfl⟩)
        | fail
    · skip
      refine z_iconst (pc := 16) (v := nI 3) dX10_digitsOf_16 (by decide) ?_
      refine z_goto (pc := 17) (tgt := 21) dX10_digitsOf_17 (by decide) ?_
      refine z_iret (pc := 21) dX10_digitsOf_21 rfl ?_
      first
        | (rw [show a = 120 by omega]; exact ⟨rfl, rfl, rfl⟩)
        | (rw [show a = 107 by omega]; exact ⟨rfl, rfl, rfl⟩)
        | (rw [zdg_o (by omega) (by omega)]; exact ⟨rfl, rfl, rfl⟩)
        | fail
  · skip
    refine z_iconst (pc := 6) (v := nI 0) dX10_digitsOf_6 (by decide) ?_
    refine z_goto (pc := 7) (tgt := 21) dX10_digitsOf_7 (by decide) ?_
    refine z_iret (pc := 21) dX10_digitsOf_21 rfl ?_
    first
      | (rw [show a = 120 by omega]; exact ⟨rfl, rfl, rfl⟩)
      | (rw [show a = 107 by omega]; exact ⟨rfl, rfl, rfl⟩)
      | (rw [zdg_o (by omega) (by omega)]; exact ⟨rfl, rfl, rfl⟩)
      | fail
theorem zrun_v {P : Nat → Bool} : ∀ (j m a : Nat), j ≤ m → (∀ i, i < j → P (a + i) = true) → (j = m ∨ P (a + j) = false) → zrun P m a = j
  | 0, m, a, h, _, h2 => by
    cases m with
    | zero => rfl
    | succ m =>
      have h3 := h2.resolve_left (by omega)
      unfold zrun
      rw [Nat.add_zero] at h3
      rw [if_neg (by rw [h3]; decide)]
  | j + 1, m, a, h, h1, h2 => by
    cases m with
    | zero => omega
    | succ m =>
      unfold zrun
      have h0 := h1 0 (by omega)
      rw [Nat.add_zero] at h0
      rw [if_pos h0, zrun_v j m (a + 1) (by omega) (fun i hi => by have := h1 (i + 1) (by omega); rw [show a + 1 + i = a + (i + 1) by omega]; exact this) (h2.imp (fun e => by omega) (fun e => by rw [show a + 1 + j = a + (j + 1) by omega]; exact e))]
      omega
theorem zde_t {P : Nat → Bool} {a f m j : Nat} (h : zrun P m a = j) (hf : f ≤ j) : zde P a f m = (true, a + j) := by
  unfold zde
  rw [h, decide_eq_true hf]
theorem zde_f {P : Nat → Bool} {a f m j : Nat} (h : zrun P m a = j) (hf : ¬ f ≤ j) : zde P a f m = (false, a + j) := by
  unfold zde
  rw [h, decide_eq_false hf]
theorem zce_s {len a : Nat} {tx : Nat → Nat} (h : a < len) (hk : tx a = 115) : zce len tx a = zde (zisb len tx) (a + 1) 2 2 := by
  unfold zce
  rw [if_neg (by omega), if_pos hk]
theorem zce_n {len a : Nat} {tx : Nat → Nat} (h : a < len) (hk : tx a = 110 ∨ tx a = 109) : zce len tx a = zde (zisb len tx) (a + 1) 3 4 := by
  unfold zce
  rw [if_neg (by omega), if_neg (by omega), if_pos hk]
theorem zce_k {len a : Nat} {tx : Nat → Nat} (h : a < len) (hk : tx a = 107) : zce len tx a = zde (zisb len tx) (a + 1) 3 3 := by
  unfold zce
  rw [if_neg (by omega), if_neg (by omega), if_neg (by omega), if_pos hk]
theorem zce_x {len a : Nat} {tx : Nat → Nat} (h : a < len) (hk : tx a = 120) : zce len tx a = (true, a + 1) := by
  unfold zce
  rw [if_neg (by omega), if_neg (by omega), if_neg (by omega), if_neg (by omega), if_pos hk]
theorem zce_0 {len a : Nat} {tx : Nat → Nat} (h : len ≤ a) : zce len tx a = (false, a) := by
  unfold zce
  rw [if_pos h]
theorem zce_o {len a : Nat} {tx : Nat → Nat} (h : a < len) (hk : ¬ (tx a = 115 ∨ tx a = 110 ∨ tx a = 107 ∨ tx a = 109 ∨ tx a = 120)) : zce len tx a = (false, a) := by
  unfold zce
  rw [if_neg (by omega), if_neg (by omega), if_neg (by omega), if_neg (by omega), if_neg (by omega)]
/-- what a clause leaves in its row -/
def zclr (I : zI) (tx : Nat → Nat) (k a e : Nat) : Prop := I 84 (4 * k) = nI (tx a) ∧ (tx a ≠ 120 → I 84 (4 * k + 1) = nI (tx (a + 1) - 48) ∧ I 84 (4 * k + 2) = nI (tx (a + 2) - 48)) ∧ (tx a ≠ 120 → tx a ≠ 115 → I 84 (4 * k + 3) = nI (if e = a + 4 then tx (a + 3) - 48 else 10 * (tx (a + 3) - 48) + (tx (a + 4) - 48)))
def zfc4 (I I' : zI) (k : Nat) : Prop := ∀ x y, ¬ (x = 84 ∧ 4 * k ≤ y) → I' x y = I x y
theorem zfc4_r (I : zI) (k : Nat) : zfc4 I I k := fun _ _ _ => rfl
theorem zfc4_t {I I1 I2 : zI} {k : Nat} (h : zfc4 I I1 k) (h2 : zfc4 I1 I2 k) : zfc4 I I2 k := fun x y q => (h2 x y q).trans (h x y q)
theorem zfc4_u {I : zI} {k j : Nat} {v : Int32} (h : 4 * k ≤ j) : zfc4 I (zup I 84 j v) k := fun x y q => zup_n _ _ (by omega)
theorem zfc4_X {I I' : zI} {k len : Nat} {tx : Nat → Nat} (h : zfc4 I I' k) (hX : vMT I len tx) : vMT I' len tx := vMT_to hX (h 79 5 (by omega)) (fun y => h 83 y (by omega))
set_option maxHeartbeats 2000000 in
set_option maxRecDepth 20000 in
theorem l_X10_readsClause {lay : List zL} {Q : Value → zI → zJ → Prop} {len a k : Nat} {tx : Nat → Nat} {d : Nat} {I0 : zI} {J : zJ} (hM : kM lay) (hX0 : vMT I0 len tx) (ha : a < len) (hk : k < 12) : ∀ (m i : Nat) (I : zI), i + m = zdg (tx a) + 1 → 1 ≤ i → (∀ j, j + 1 < i → zisb len tx (a + 1 + j) = true) → I 84 (4 * k) = nI (tx a) → (∀ j, 1 ≤ j → j < i → I 84 (4 * k + j) = nI (tx (a + j) - 48)) → zfc4 I0 I k → (∀ I', (∀ j, j < zdg (tx a) → zisb len tx (a + 1 + j) = true) → I' 84 (4 * k) = nI (tx a) → (∀ j, 1 ≤ j → j < zdg (tx a) + 1 → I' 84 (4 * k + j) = nI (tx (a + j) - 48)) → zfc4 I0 I' k → Z lay MX10_readsClause (d + 2) 103 [.ref 79, .int (nI a), .int (nI k), .int (nI (tx a)), .int (nI (a + (zdg (tx a) + 1))), .int (nI (zdg (tx a) + 1))] [] I' J Q) → (∀ I' j, j < zdg (tx a) → (∀ i, i < j → zisb len tx (a + 1 + i) = true) → zisb len tx (a + 1 + j) = false → zfc4 I0 I' k → Q (.int (-10 - nI (a + 1 + j))) I' J) → Z lay MX10_readsClause (d + 2) 49 [.ref 79, .int (nI a), .int (nI k), .int (nI (tx a)), .int (nI (a + i)), .int (nI i)] [] I J Q := by
  have hz3 := zdg_le (tx a)
  obtain ⟨x1', x2, x3', x4⟩ := id hX0
  have h127 := x4 a ha
  intro m
  induction m with
  | zero =>
    intro i I hi hi1 h1 hc0 hc hf K hn
    obtain rfl : i = zdg (tx a) + 1 := (by omega)
    have hX := zfc4_X hf hX0
    obtain ⟨mo, m80, m81, m82, m83, m84, m85, m86, m87, m88, m89, m90, m91, m92, m93, m94, m95, m96⟩ := id hM
    refine z_iload (pc := 49) dX10_readsClause_49 rfl ?_
    refine z_iload_n (pc := 51) dX10_readsClause_51 rfl rfl ?_
    refine z_callS (pc := 52) (c_X10_digitsOf (by omega)) dX10_readsClause_52 l_RX10_118 m_MX10_digitsOf s_MX10_digitsOf rfl (by omega) rfl (Nat.le_of_ble_eq_true rfl) ?_
    rintro _ _ _ (⟨rfl, rfl, rfl⟩)
    try dsimp only [zov, Option.toList, List.cons_append, List.nil_append]
    first | refine z_icmp_gtN (pc := 55) (tgt := 103) (by with_reducible rfl) (by with_reducible rfl) dX10_readsClause_55 (by decide) (by omega) (by omega) (fun hb55 => ?_) (fun hb55 => absurd hb55 (by omega)) | refine z_icmp_gt (pc := 55) (tgt := 103) dX10_readsClause_55 (by decide) (fun hb55 => ?_) (fun hb55 => absurd hb55 (by omega))
    · skip
      exact K I (fun j hj => h1 j (by omega)) hc0 hc hf
  | succ m ih =>
    intro i I hi hi1 h1 hc0 hc hf K hn
    have hX := zfc4_X hf hX0
    obtain ⟨x1, _, x3, _⟩ := id hX
    obtain ⟨mo, m80, m81, m82, m83, m84, m85, m86, m87, m88, m89, m90, m91, m92, m93, m94, m95, m96⟩ := id hM
    refine z_iload (pc := 49) dX10_readsClause_49 rfl ?_
    refine z_iload_n (pc := 51) dX10_readsClause_51 rfl rfl ?_
    refine z_callS (pc := 52) (c_X10_digitsOf (by omega)) dX10_readsClause_52 l_RX10_118 m_MX10_digitsOf s_MX10_digitsOf rfl (by omega) rfl (Nat.le_of_ble_eq_true rfl) ?_
    rintro _ _ _ (⟨rfl, rfl, rfl⟩)
    try dsimp only [zov, Option.toList, List.cons_append, List.nil_append]
    first | refine z_icmp_gtN (pc := 55) (tgt := 103) (by with_reducible rfl) (by with_reducible rfl) dX10_readsClause_55 (by decide) (by omega) (by omega) (fun hb55 => absurd hb55 (by omega)) (fun hb55 => ?_) | refine z_icmp_gt (pc := 55) (tgt := 103) dX10_readsClause_55 (by decide) (fun hb55 => absurd hb55 (by omega)) (fun hb55 => ?_)
    · skip
      refine z_aload_n (pc := 58) dX10_readsClause_58 rfl rfl ?_
      refine z_iload (pc := 59) dX10_readsClause_59 rfl ?_
      refine z_callV (pc := 61) (c_X10_isDigit hM hX (by omega)) dX10_readsClause_61 l_RX10_121 m_MX10_isDigit n_MX10_isDigit e_MX10_isDigit rfl (by omega) (by assumption) rfl rfl (Nat.le_of_ble_eq_true rfl) ?_
      rintro _ _ _ ⟨⟨rfl, hd⟩ | ⟨rfl, hd⟩, rfl, rfl⟩
      · have hd9 := zisb_lt hd
        try dsimp only [zov, Option.toList, List.cons_append, List.nil_append]
        first | refine z_if_neN (pc := 64) (tgt := 73) (by with_reducible rfl) dX10_readsClause_64 (by decide) (by omega) (fun hb64 => ?_) (fun hb64 => absurd hb64 (by decide)) | refine z_if_ne (pc := 64) (tgt := 73) dX10_readsClause_64 (by decide) (fun hb64 => ?_) (fun hb64 => absurd hb64 (by decide))
        · skip
          refine z_aload_n (pc := 73) dX10_readsClause_73 rfl rfl ?_
          refine z_getR (pc := 74) dX10_readsClause_74 f_RX10_24 (by assumption) rfl ?_
          refine z_iconst (pc := 77) (v := nI 4) dX10_readsClause_77 (by decide) ?_
          refine z_iload_n (pc := 78) dX10_readsClause_78 rfl rfl ?_
          first | refine z_imulN (pc := 79) (by with_reducible rfl) (by with_reducible rfl) dX10_readsClause_79 ?_ | refine z_imul (pc := 79) dX10_readsClause_79 ?_
          refine z_iload (pc := 80) dX10_readsClause_80 rfl ?_
          first | refine z_iaddN (pc := 82) (by with_reducible rfl) (by with_reducible rfl) dX10_readsClause_82 ?_ | refine z_iadd (pc := 82) dX10_readsClause_82 ?_
          refine z_aload_n (pc := 83) dX10_readsClause_83 rfl rfl ?_
          refine z_getR (pc := 84) dX10_readsClause_84 f_RX10_21 (by assumption) rfl ?_
          refine z_iload (pc := 87) dX10_readsClause_87 rfl ?_
          refine z_ialoadv (pc := 89) dX10_readsClause_89 (by assumption) (by with_reducible rfl) (by omega) (by decide) (by first | assumption | exact x3 (a + i) (by omega) | rfl) ?_
          refine z_bipush (pc := 90) (v := nI 48) dX10_readsClause_90 (by decide) ?_
          first | refine z_isubN (pc := 92) (by with_reducible rfl) (by with_reducible rfl) dX10_readsClause_92 (by omega) ?_ | refine z_isub (pc := 92) dX10_readsClause_92 ?_
          refine z_iastore (pc := 93) dX10_readsClause_93 (by assumption) (by with_reducible rfl) (by omega) (by decide) ?_
          first | refine z_iincN (pc := 94) (c := 1) dX10_readsClause_94 rfl (by with_reducible rfl) (by decide) (by decide) rfl ?_ | refine z_iinc (pc := 94) dX10_readsClause_94 rfl rfl (by decide) rfl ?_
          try dsimp only [zst1, zst2, zk]
          first | refine z_iincN (pc := 97) (c := 1) dX10_readsClause_97 rfl (by with_reducible rfl) (by decide) (by decide) rfl ?_ | refine z_iinc (pc := 97) dX10_readsClause_97 rfl rfl (by decide) rfl ?_
          try dsimp only [zst1, zst2, zk]
          refine z_goto (pc := 100) (tgt := 49) dX10_readsClause_100 (by decide) ?_
          refine ih (i + 1) _ (by omega) (by omega) (fun j hj => ?_) ((zup_n _ _ (by omega)).trans hc0) (fun j hj1 hj2 => ?_) (zfc4_t hf (zfc4_u (by omega))) K hn
          · by_cases e : j + 1 = i
            · rw [show a + 1 + j = a + i by omega]; exact hd
            · exact h1 j (by omega)
          · by_cases e : j = i
            · rw [e]; exact zup_s _ _ _ _
            · rw [zup_n _ _ (by omega)]; exact hc j hj1 (by omega)
      · skip
        try dsimp only [zov, Option.toList, List.cons_append, List.nil_append]
        first | refine z_if_neN (pc := 64) (tgt := 73) (by with_reducible rfl) dX10_readsClause_64 (by decide) (by omega) (fun hb64 => absurd hb64 (by decide)) (fun hb64 => ?_) | refine z_if_ne (pc := 64) (tgt := 73) dX10_readsClause_64 (by decide) (fun hb64 => absurd hb64 (by decide)) (fun hb64 => ?_)
        · skip
          refine z_bipush (pc := 67) (v := -10) dX10_readsClause_67 (by decide) ?_
          refine z_iload (pc := 69) dX10_readsClause_69 rfl ?_
          first | refine z_isubN (pc := 71) (by with_reducible rfl) (by with_reducible rfl) dX10_readsClause_71 (by omega) ?_ | refine z_isub (pc := 71) dX10_readsClause_71 ?_
          refine z_iret (pc := 72) dX10_readsClause_72 rfl ?_
          have e9 := hn I (i - 1) (by omega) (fun j hj => h1 j (by omega)) (by rw [show a + 1 + (i - 1) = a + i by omega]; exact hd) hf
          rw [show a + 1 + (i - 1) = a + i by omega] at e9
          exact e9
theorem zclr_s {I : zI} {tx : Nat → Nat} {k a e : Nat} (hk : tx a = 115) (h0 : I 84 (4 * k) = nI (tx a)) (h : ∀ j, 1 ≤ j → j < 2 + 1 → I 84 (4 * k + j) = nI (tx (a + j) - 48)) : zclr I tx k a e := ⟨h0, fun _ => ⟨h 1 (by omega) (by omega), h 2 (by omega) (by omega)⟩, fun _ h2 => absurd hk h2⟩
theorem zclr_x {I : zI} {tx : Nat → Nat} {k a e : Nat} (hk : tx a = 120) (h0 : I 84 (4 * k) = nI (tx a)) : zclr I tx k a e := ⟨h0, fun h => absurd hk h, fun h => absurd hk h⟩
theorem zclr_k {I : zI} {tx : Nat → Nat} {k a e : Nat} (he : e = a + 4) (h0 : I 84 (4 * k) = nI (tx a)) (h : ∀ j, 1 ≤ j → j < 3 + 1 → I 84 (4 * k + j) = nI (tx (a + j) - 48)) : zclr I tx k a e := ⟨h0, fun _ => ⟨h 1 (by omega) (by omega), h 2 (by omega) (by omega)⟩, fun _ _ => by rw [if_pos he]; exact h 3 (by omega) (by omega)⟩
theorem zclr_n {I : zI} {tx : Nat → Nat} {k a e v : Nat} (hv : v = if e = a + 4 then tx (a + 3) - 48 else 10 * (tx (a + 3) - 48) + (tx (a + 4) - 48)) (h0 : I 84 (4 * k) = nI (tx a)) (h : ∀ j, 1 ≤ j → j < 2 + 1 → I 84 (4 * k + j) = nI (tx (a + j) - 48)) (h3 : I 84 (4 * k + 3) = nI v) : zclr I tx k a e := ⟨h0, fun _ => ⟨h 1 (by omega) (by omega), h 2 (by omega) (by omega)⟩, fun _ _ => by rw [← hv]; exact h3⟩
set_option maxHeartbeats 2000000 in
set_option maxRecDepth 20000 in
theorem c_X10_readsClause {lay : List zL} {I : zI} {J : zJ} {len : Nat} {tx : Nat → Nat} (hM : kM lay) (hX : vMT I len tx) {a k : Nat} (hal : a ≤ len) (hkk : k < 12) : zMet lay MX10_readsClause 2 [.ref 79, .int (nI a), .int (nI k)] I J (fun r I' J' => (((zce len tx a).1 = true ∧ r = .int (nI (zce len tx a).2) ∧ zclr I' tx k a (zce len tx a).2) ∨ ((zce len tx a).1 = false ∧ r = .int (-10 - nI (zce len tx a).2))) ∧ zfc4 I I' k ∧ J = J') := by
  refine zMet_of (t := MX10_readsClause) (ls := [.ref 79, .int (nI a), .int (nI k), .null, .null, .null]) (by decide +kernel) (Nat.le_of_ble_eq_true rfl) rfl ?_
  obtain ⟨mo, m80, m81, m82, m83, m84, m85, m86, m87, m88, m89, m90, m91, m92, m93, m94, m95, m96⟩ := id hM
  obtain ⟨x1, x2, x3, x4⟩ := id hX
  refine z_iload_n (pc := 0) dX10_readsClause_0 rfl rfl ?_
  refine z_aload_n (pc := 1) dX10_readsClause_1 rfl rfl ?_
  refine z_getIv (pc := 2) dX10_readsClause_2 f_RX10_107 (by assumption) rfl (by first | assumption | exact x3 a (by omega) | exact (zup_n _ _ (by decide)).trans (x3 a (by omega)) | rfl) ?_
  first | refine z_icmp_eqN (pc := 5) (tgt := 20) (by with_reducible rfl) (by with_reducible rfl) dX10_readsClause_5 (by decide) (by omega) (by omega) (fun hb5 => ?_) (fun hb5 => ?_) | refine z_icmp_eq (pc := 5) (tgt := 20) dX10_readsClause_5 (by decide) (fun hb5 => ?_) (fun hb5 => ?_)
  · skip
    refine z_bipush (pc := 20) (v := -10) dX10_readsClause_20 (by decide) ?_
    refine z_iload_n (pc := 22) dX10_readsClause_22 rfl rfl ?_
    first | refine z_isubN (pc := 23) (by with_reducible rfl) (by with_reducible rfl) dX10_readsClause_23 (by omega) ?_ | refine z_isub (pc := 23) dX10_readsClause_23 ?_
    refine z_iret (pc := 24) dX10_readsClause_24 rfl ?_
    first
      | (have eT := zce_0 (len := len) (a := a) (tx := tx) (by omega)
         exact ⟨Or.inr ⟨by rw [eT], by rw [eT]⟩, zfc4_r _ _, rfl⟩)
      | (have eT := zce_o ha hkd
         exact ⟨Or.inr ⟨by rw [eT], by rw [eT]⟩, zfc4_r _ _, rfl⟩)
      | fail
  · skip
    have ha : a < len := (by omega)
    have h127 := x4 a ha
    refine z_aload_n (pc := 8) dX10_readsClause_8 rfl rfl ?_
    refine z_getR (pc := 9) dX10_readsClause_9 f_RX10_21 (by assumption) rfl ?_
    refine z_iload_n (pc := 12) dX10_readsClause_12 rfl rfl ?_
    refine z_ialoadv (pc := 13) dX10_readsClause_13 (by assumption) (by with_reducible rfl) (by omega) (by decide) (by first | assumption | exact x3 a (by omega) | exact (zup_n _ _ (by decide)).trans (x3 a (by omega)) | rfl) ?_
    refine z_callS (pc := 14) (c_X10_isKind (by omega)) dX10_readsClause_14 l_RX10_115 m_MX10_isKind s_MX10_isKind rfl (by omega) rfl (Nat.le_of_ble_eq_true rfl) ?_
    rintro _ _ _ ⟨⟨rfl, hkd⟩ | ⟨rfl, hkd⟩, rfl, rfl⟩
    · skip
      try dsimp only [zov, Option.toList, List.cons_append, List.nil_append]
      first | refine z_if_neN (pc := 17) (tgt := 25) (by with_reducible rfl) dX10_readsClause_17 (by decide) (by omega) (fun hb17 => ?_) (fun hb17 => absurd hb17 (by decide)) | refine z_if_ne (pc := 17) (tgt := 25) dX10_readsClause_17 (by decide) (fun hb17 => ?_) (fun hb17 => absurd hb17 (by decide))
      · skip
        refine z_aload_n (pc := 25) dX10_readsClause_25 rfl rfl ?_
        refine z_getR (pc := 26) dX10_readsClause_26 f_RX10_21 (by assumption) rfl ?_
        refine z_iload_n (pc := 29) dX10_readsClause_29 rfl rfl ?_
        refine z_ialoadv (pc := 30) dX10_readsClause_30 (by assumption) (by with_reducible rfl) (by omega) (by decide) (by first | assumption | exact x3 a (by omega) | exact (zup_n _ _ (by decide)).trans (x3 a (by omega)) | rfl) ?_
        refine z_istore_n (pc := 31) dX10_readsClause_31 rfl (by decide) rfl ?_
        try dsimp only [zst1, zst2, zk]
        refine z_aload_n (pc := 32) dX10_readsClause_32 rfl rfl ?_
        refine z_getR (pc := 33) dX10_readsClause_33 f_RX10_24 (by assumption) rfl ?_
        refine z_iconst (pc := 36) (v := nI 4) dX10_readsClause_36 (by decide) ?_
        refine z_iload_n (pc := 37) dX10_readsClause_37 rfl rfl ?_
        first | refine z_imulN (pc := 38) (by with_reducible rfl) (by with_reducible rfl) dX10_readsClause_38 ?_ | refine z_imul (pc := 38) dX10_readsClause_38 ?_
        refine z_iload_n (pc := 39) dX10_readsClause_39 rfl rfl ?_
        refine z_iastore (pc := 40) dX10_readsClause_40 (by assumption) (by with_reducible rfl) (by omega) (by decide) ?_
        refine z_iload_n (pc := 41) dX10_readsClause_41 rfl rfl ?_
        refine z_iconst (pc := 42) (v := nI 1) dX10_readsClause_42 (by decide) ?_
        first | refine z_iaddN (pc := 43) (by with_reducible rfl) (by with_reducible rfl) dX10_readsClause_43 ?_ | refine z_iadd (pc := 43) dX10_readsClause_43 ?_
        refine z_istore (pc := 44) dX10_readsClause_44 (by decide) rfl ?_
        try dsimp only [zst1, zst2, zk]
        refine z_iconst (pc := 46) (v := nI 1) dX10_readsClause_46 (by decide) ?_
        refine z_istore (pc := 47) dX10_readsClause_47 (by decide) rfl ?_
        try dsimp only [zst1, zst2, zk]
        rcases (show tx a = 115 ∨ (tx a = 110 ∨ tx a = 109) ∨ tx a = 107 ∨ tx a = 120 by omega) with hk | hk | hk | hk
        · refine l_X10_readsClause (d := 0) hM hX ha hkk (zdg (tx a)) 1 _ (by omega) (by omega) (fun j hj => absurd hj (by omega)) (zup_s _ _ _ _) (fun j h1 h2 => absurd h1 (by omega)) (zfc4_u (by omega)) (fun I1 g1 g2 g3 g4 => ?_) (fun I1 j hj g1 g2 g3 => ?_)
          · skip
            rw [show zdg (tx a) = 2 by rw [hk]; rfl] at g1 g3 ⊢
            have hXn := zfc4_X g4 hX
            obtain ⟨y1, _, y3, _⟩ := id hXn
            have eT : zce len tx a = (true, a + 3) := (by rw [zce_s ha hk, zde_t (zrun_v 2 2 (a + 1) (by omega) (fun i hi => g1 i hi) (Or.inl rfl)) (by omega)])
            refine z_iload_n (pc := 103) dX10_readsClause_103 rfl rfl ?_
            refine z_bipush (pc := 104) (v := nI 110) dX10_readsClause_104 (by decide) ?_
            first | refine z_icmp_eqN (pc := 106) (tgt := 118) (by with_reducible rfl) (by with_reducible rfl) dX10_readsClause_106 (by decide) (by omega) (by omega) (fun hb106 => ?_) (fun hb106 => ?_) | refine z_icmp_eq (pc := 106) (tgt := 118) dX10_readsClause_106 (by decide) (fun hb106 => ?_) (fun hb106 => ?_)
            · skip
              refine z_aload_n (pc := 118) dX10_readsClause_118 rfl rfl ?_
              refine z_iload (pc := 119) dX10_readsClause_119 rfl ?_
              refine z_callV (pc := 121) (c_X10_isDigit hM hXn (by omega)) dX10_readsClause_121 l_RX10_121 m_MX10_isDigit n_MX10_isDigit e_MX10_isDigit rfl (by omega) (by assumption) rfl rfl (Nat.le_of_ble_eq_true rfl) ?_
              rintro _ _ _ ⟨⟨rfl, hd3⟩ | ⟨rfl, hd3⟩, rfl, rfl⟩
              · have hd39 := zisb_lt hd3; have yz3 : ∀ (v : Int32) j, j < len → zup I1 84 (4 * k + 3) v 83 j = nI (tx j) := fun v j hj => (zup_n _ _ (by omega)).trans (y3 j hj); have h84 : ∀ (v : Int32), zup I1 84 (4 * k + 3) v 84 (4 * k + 3) = v := fun v => zup_s _ _ _ _; have hX3 : ∀ v, vMT (zup I1 84 (4 * k + 3) v) len tx := fun v => zfc4_X (zfc4_u (k := k) (by omega)) hXn
                try dsimp only [zov, Option.toList, List.cons_append, List.nil_append]
                first | refine z_if_neN (pc := 124) (tgt := 133) (by with_reducible rfl) dX10_readsClause_124 (by decide) (by omega) (fun hb124 => ?_) (fun hb124 => absurd hb124 (by decide)) | refine z_if_ne (pc := 124) (tgt := 133) dX10_readsClause_124 (by decide) (fun hb124 => ?_) (fun hb124 => absurd hb124 (by decide))
                · skip
                  refine z_aload_n (pc := 133) dX10_readsClause_133 rfl rfl ?_
                  refine z_getR (pc := 134) dX10_readsClause_134 f_RX10_24 (by assumption) rfl ?_
                  refine z_iconst (pc := 137) (v := nI 4) dX10_readsClause_137 (by decide) ?_
                  refine z_iload_n (pc := 138) dX10_readsClause_138 rfl rfl ?_
                  first | refine z_imulN (pc := 139) (by with_reducible rfl) (by with_reducible rfl) dX10_readsClause_139 ?_ | refine z_imul (pc := 139) dX10_readsClause_139 ?_
                  refine z_iconst (pc := 140) (v := nI 3) dX10_readsClause_140 (by decide) ?_
                  first | refine z_iaddN (pc := 141) (by with_reducible rfl) (by with_reducible rfl) dX10_readsClause_141 ?_ | refine z_iadd (pc := 141) dX10_readsClause_141 ?_
                  refine z_aload_n (pc := 142) dX10_readsClause_142 rfl rfl ?_
                  refine z_getR (pc := 143) dX10_readsClause_143 f_RX10_21 (by assumption) rfl ?_
                  refine z_iload (pc := 146) dX10_readsClause_146 rfl ?_
                  refine z_ialoadv (pc := 148) dX10_readsClause_148 (by assumption) (by with_reducible rfl) (by omega) (by decide) (by first | assumption | exact y3 _ (by omega) | exact h84 _ | exact yz3 _ _ (by omega) | rfl) ?_
                  refine z_bipush (pc := 149) (v := nI 48) dX10_readsClause_149 (by decide) ?_
                  first | refine z_isubN (pc := 151) (by with_reducible rfl) (by with_reducible rfl) dX10_readsClause_151 (by omega) ?_ | refine z_isub (pc := 151) dX10_readsClause_151 ?_
                  refine z_iastore (pc := 152) dX10_readsClause_152 (by assumption) (by with_reducible rfl) (by omega) (by decide) ?_
                  first | refine z_iincN (pc := 153) (c := 1) dX10_readsClause_153 rfl (by with_reducible rfl) (by decide) (by decide) rfl ?_ | refine z_iinc (pc := 153) dX10_readsClause_153 rfl rfl (by decide) rfl ?_
                  try dsimp only [zst1, zst2, zk]
                  refine z_aload_n (pc := 156) dX10_readsClause_156 rfl rfl ?_
                  refine z_iload (pc := 157) dX10_readsClause_157 rfl ?_
                  refine z_callV (pc := 159) (c_X10_isDigit hM (hX3 _) (by omega)) dX10_readsClause_159 l_RX10_121 m_MX10_isDigit n_MX10_isDigit e_MX10_isDigit rfl (by omega) (by assumption) rfl rfl (Nat.le_of_ble_eq_true rfl) ?_
                  rintro _ _ _ ⟨⟨rfl, hd4⟩ | ⟨rfl, hd4⟩, rfl, rfl⟩
                  · have hd49 := zisb_lt hd4
                    try dsimp only [zov, Option.toList, List.cons_append, List.nil_append]
                    first | refine z_if_eqN (pc := 162) (tgt := 202) (by with_reducible rfl) dX10_readsClause_162 (by decide) (by omega) (fun hb162 => absurd hb162 (by decide)) (fun hb162 => ?_) | refine z_if_eq (pc := 162) (tgt := 202) dX10_readsClause_162 (by decide) (fun hb162 => absurd hb162 (by decide)) (fun hb162 => ?_)
                    · skip
                      refine z_aload_n (pc := 165) dX10_readsClause_165 rfl rfl ?_
                      refine z_getR (pc := 166) dX10_readsClause_166 f_RX10_24 (by assumption) rfl ?_
                      refine z_iconst (pc := 169) (v := nI 4) dX10_readsClause_169 (by decide) ?_
                      refine z_iload_n (pc := 170) dX10_readsClause_170 rfl rfl ?_
                      first | refine z_imulN (pc := 171) (by with_reducible rfl) (by with_reducible rfl) dX10_readsClause_171 ?_ | refine z_imul (pc := 171) dX10_readsClause_171 ?_
                      refine z_iconst (pc := 172) (v := nI 3) dX10_readsClause_172 (by decide) ?_
                      first | refine z_iaddN (pc := 173) (by with_reducible rfl) (by with_reducible rfl) dX10_readsClause_173 ?_ | refine z_iadd (pc := 173) dX10_readsClause_173 ?_
                      refine z_bipush (pc := 174) (v := nI 10) dX10_readsClause_174 (by decide) ?_
                      refine z_aload_n (pc := 176) dX10_readsClause_176 rfl rfl ?_
                      refine z_getR (pc := 177) dX10_readsClause_177 f_RX10_24 (by assumption) rfl ?_
                      refine z_iconst (pc := 180) (v := nI 4) dX10_readsClause_180 (by decide) ?_
                      refine z_iload_n (pc := 181) dX10_readsClause_181 rfl rfl ?_
                      first | refine z_imulN (pc := 182) (by with_reducible rfl) (by with_reducible rfl) dX10_readsClause_182 ?_ | refine z_imul (pc := 182) dX10_readsClause_182 ?_
                      refine z_iconst (pc := 183) (v := nI 3) dX10_readsClause_183 (by decide) ?_
                      first | refine z_iaddN (pc := 184) (by with_reducible rfl) (by with_reducible rfl) dX10_readsClause_184 ?_ | refine z_iadd (pc := 184) dX10_readsClause_184 ?_
                      refine z_ialoadv (pc := 185) dX10_readsClause_185 (by assumption) (by with_reducible rfl) (by omega) (by decide) (by first | assumption | exact y3 _ (by omega) | exact h84 _ | exact yz3 _ _ (by omega) | rfl) ?_
                      first | refine z_imulN (pc := 186) (by with_reducible rfl) (by with_reducible rfl) dX10_readsClause_186 ?_ | refine z_imul (pc := 186) dX10_readsClause_186 ?_
                      refine z_aload_n (pc := 187) dX10_readsClause_187 rfl rfl ?_
                      refine z_getR (pc := 188) dX10_readsClause_188 f_RX10_21 (by assumption) rfl ?_
                      refine z_iload (pc := 191) dX10_readsClause_191 rfl ?_
                      refine z_ialoadv (pc := 193) dX10_readsClause_193 (by assumption) (by with_reducible rfl) (by omega) (by decide) (by first | assumption | exact y3 _ (by omega) | exact h84 _ | exact yz3 _ _ (by omega) | rfl) ?_
                      first | refine z_iaddN (pc := 194) (by with_reducible rfl) (by with_reducible rfl) dX10_readsClause_194 ?_ | refine z_iadd (pc := 194) dX10_readsClause_194 ?_
                      refine z_bipush (pc := 195) (v := nI 48) dX10_readsClause_195 (by decide) ?_
                      first | refine z_isubN (pc := 197) (by with_reducible rfl) (by with_reducible rfl) dX10_readsClause_197 (by omega) ?_ | refine z_isub (pc := 197) dX10_readsClause_197 ?_
                      refine z_iastore (pc := 198) dX10_readsClause_198 (by assumption) (by with_reducible rfl) (by omega) (by decide) ?_
                      first | refine z_iincN (pc := 199) (c := 1) dX10_readsClause_199 rfl (by with_reducible rfl) (by decide) (by decide) rfl ?_ | refine z_iinc (pc := 199) dX10_readsClause_199 rfl rfl (by decide) rfl ?_
                      try dsimp only [zst1, zst2, zk]
                      refine z_iload (pc := 202) dX10_readsClause_202 rfl ?_
                      refine z_iret (pc := 204) dX10_readsClause_204 rfl ?_
                      first
                      | exact absurd hb106 (by omega)
                      | exact absurd hb112 (by omega)
                      | exact ⟨Or.inl ⟨by rw [eT], by rw [eT], zclr_s hk g2 g3⟩, g4, rfl⟩
                      | fail
                  · skip
                    try dsimp only [zov, Option.toList, List.cons_append, List.nil_append]
                    first | refine z_if_eqN (pc := 162) (tgt := 202) (by with_reducible rfl) dX10_readsClause_162 (by decide) (by omega) (fun hb162 => ?_) (fun hb162 => absurd hb162 (by decide)) | refine z_if_eq (pc := 162) (tgt := 202) dX10_readsClause_162 (by decide) (fun hb162 => ?_) (fun hb162 => absurd hb162 (by decide))
                    · skip
                      refine z_iload (pc := 202) dX10_readsClause_202 rfl ?_
                      refine z_iret (pc := 204) dX10_readsClause_204 rfl ?_
                      first
                      | exact absurd hb106 (by omega)
                      | exact absurd hb112 (by omega)
                      | exact ⟨Or.inl ⟨by rw [eT], by rw [eT], zclr_s hk g2 g3⟩, g4, rfl⟩
                      | fail
              · skip
                try dsimp only [zov, Option.toList, List.cons_append, List.nil_append]
                first | refine z_if_neN (pc := 124) (tgt := 133) (by with_reducible rfl) dX10_readsClause_124 (by decide) (by omega) (fun hb124 => absurd hb124 (by decide)) (fun hb124 => ?_) | refine z_if_ne (pc := 124) (tgt := 133) dX10_readsClause_124 (by decide) (fun hb124 => absurd hb124 (by decide)) (fun hb124 => ?_)
                · skip
                  refine z_bipush (pc := 127) (v := -10) dX10_readsClause_127 (by decide) ?_
                  refine z_iload (pc := 129) dX10_readsClause_129 rfl ?_
                  first | refine z_isubN (pc := 131) (by with_reducible rfl) (by with_reducible rfl) dX10_readsClause_131 (by omega) ?_ | refine z_isub (pc := 131) dX10_readsClause_131 ?_
                  refine z_iret (pc := 132) dX10_readsClause_132 rfl ?_
                  first
                  | exact absurd hb106 (by omega)
                  | exact absurd hb112 (by omega)
                  | exact ⟨Or.inl ⟨by rw [eT], by rw [eT], zclr_s hk g2 g3⟩, g4, rfl⟩
                  | fail
            · skip
              refine z_iload_n (pc := 109) dX10_readsClause_109 rfl rfl ?_
              refine z_bipush (pc := 110) (v := nI 109) dX10_readsClause_110 (by decide) ?_
              first | refine z_icmp_eqN (pc := 112) (tgt := 118) (by with_reducible rfl) (by with_reducible rfl) dX10_readsClause_112 (by decide) (by omega) (by omega) (fun hb112 => ?_) (fun hb112 => ?_) | refine z_icmp_eq (pc := 112) (tgt := 118) dX10_readsClause_112 (by decide) (fun hb112 => ?_) (fun hb112 => ?_)
              · skip
                refine z_aload_n (pc := 118) dX10_readsClause_118 rfl rfl ?_
                refine z_iload (pc := 119) dX10_readsClause_119 rfl ?_
                refine z_callV (pc := 121) (c_X10_isDigit hM hXn (by omega)) dX10_readsClause_121 l_RX10_121 m_MX10_isDigit n_MX10_isDigit e_MX10_isDigit rfl (by omega) (by assumption) rfl rfl (Nat.le_of_ble_eq_true rfl) ?_
                rintro _ _ _ ⟨⟨rfl, hd3⟩ | ⟨rfl, hd3⟩, rfl, rfl⟩
                · have hd39 := zisb_lt hd3; have yz3 : ∀ (v : Int32) j, j < len → zup I1 84 (4 * k + 3) v 83 j = nI (tx j) := fun v j hj => (zup_n _ _ (by omega)).trans (y3 j hj); have h84 : ∀ (v : Int32), zup I1 84 (4 * k + 3) v 84 (4 * k + 3) = v := fun v => zup_s _ _ _ _; have hX3 : ∀ v, vMT (zup I1 84 (4 * k + 3) v) len tx := fun v => zfc4_X (zfc4_u (k := k) (by omega)) hXn
                  try dsimp only [zov, Option.toList, List.cons_append, List.nil_append]
                  first | refine z_if_neN (pc := 124) (tgt := 133) (by with_reducible rfl) dX10_readsClause_124 (by decide) (by omega) (fun hb124 => ?_) (fun hb124 => absurd hb124 (by decide)) | refine z_if_ne (pc := 124) (tgt := 133) dX10_readsClause_124 (by decide) (fun hb124 => ?_) (fun hb124 => absurd hb124 (by decide))
                  · skip
                    refine z_aload_n (pc := 133) dX10_readsClause_133 rfl rfl ?_
                    refine z_getR (pc := 134) dX10_readsClause_134 f_RX10_24 (by assumption) rfl ?_
                    refine z_iconst (pc := 137) (v := nI 4) dX10_readsClause_137 (by decide) ?_
                    refine z_iload_n (pc := 138) dX10_readsClause_138 rfl rfl ?_
                    first | refine z_imulN (pc := 139) (by with_reducible rfl) (by with_reducible rfl) dX10_readsClause_139 ?_ | refine z_imul (pc := 139) dX10_readsClause_139 ?_
                    refine z_iconst (pc := 140) (v := nI 3) dX10_readsClause_140 (by decide) ?_
                    first | refine z_iaddN (pc := 141) (by with_reducible rfl) (by with_reducible rfl) dX10_readsClause_141 ?_ | refine z_iadd (pc := 141) dX10_readsClause_141 ?_
                    refine z_aload_n (pc := 142) dX10_readsClause_142 rfl rfl ?_
                    refine z_getR (pc := 143) dX10_readsClause_143 f_RX10_21 (by assumption) rfl ?_
                    refine z_iload (pc := 146) dX10_readsClause_146 rfl ?_
                    refine z_ialoadv (pc := 148) dX10_readsClause_148 (by assumption) (by with_reducible rfl) (by omega) (by decide) (by first | assumption | exact y3 _ (by omega) | exact h84 _ | exact yz3 _ _ (by omega) | rfl) ?_
                    refine z_bipush (pc := 149) (v := nI 48) dX10_readsClause_149 (by decide) ?_
                    first | refine z_isubN (pc := 151) (by with_reducible rfl) (by with_reducible rfl) dX10_readsClause_151 (by omega) ?_ | refine z_isub (pc := 151) dX10_readsClause_151 ?_
                    refine z_iastore (pc := 152) dX10_readsClause_152 (by assumption) (by with_reducible rfl) (by omega) (by decide) ?_
                    first | refine z_iincN (pc := 153) (c := 1) dX10_readsClause_153 rfl (by with_reducible rfl) (by decide) (by decide) rfl ?_ | refine z_iinc (pc := 153) dX10_readsClause_153 rfl rfl (by decide) rfl ?_
                    try dsimp only [zst1, zst2, zk]
                    refine z_aload_n (pc := 156) dX10_readsClause_156 rfl rfl ?_
                    refine z_iload (pc := 157) dX10_readsClause_157 rfl ?_
                    refine z_callV (pc := 159) (c_X10_isDigit hM (hX3 _) (by omega)) dX10_readsClause_159 l_RX10_121 m_MX10_isDigit n_MX10_isDigit e_MX10_isDigit rfl (by omega) (by assumption) rfl rfl (Nat.le_of_ble_eq_true rfl) ?_
                    rintro _ _ _ ⟨⟨rfl, hd4⟩ | ⟨rfl, hd4⟩, rfl, rfl⟩
                    · have hd49 := zisb_lt hd4
                      try dsimp only [zov, Option.toList, List.cons_append, List.nil_append]
                      first | refine z_if_eqN (pc := 162) (tgt := 202) (by with_reducible rfl) dX10_readsClause_162 (by decide) (by omega) (fun hb162 => absurd hb162 (by decide)) (fun hb162 => ?_) | refine z_if_eq (pc := 162) (tgt := 202) dX10_readsClause_162 (by decide) (fun hb162 => absurd hb162 (by decide)) (fun hb162 => ?_)
                      · skip
                        refine z_aload_n (pc := 165) dX10_readsClause_165 rfl rfl ?_
                        refine z_getR (pc := 166) dX10_readsClause_166 f_RX10_24 (by assumption) rfl ?_
                        refine z_iconst (pc := 169) (v := nI 4) dX10_readsClause_169 (by decide) ?_
                        refine z_iload_n (pc := 170) dX10_readsClause_170 rfl rfl ?_
                        first | refine z_imulN (pc := 171) (by with_reducible rfl) (by with_reducible rfl) dX10_readsClause_171 ?_ | refine z_imul (pc := 171) dX10_readsClause_171 ?_
                        refine z_iconst (pc := 172) (v := nI 3) dX10_readsClause_172 (by decide) ?_
                        first | refine z_iaddN (pc := 173) (by with_reducible rfl) (by with_reducible rfl) dX10_readsClause_173 ?_ | refine z_iadd (pc := 173) dX10_readsClause_173 ?_
                        refine z_bipush (pc := 174) (v := nI 10) dX10_readsClause_174 (by decide) ?_
                        refine z_aload_n (pc := 176) dX10_readsClause_176 rfl rfl ?_
                        refine z_getR (pc := 177) dX10_readsClause_177 f_RX10_24 (by assumption) rfl ?_
                        refine z_iconst (pc := 180) (v := nI 4) dX10_readsClause_180 (by decide) ?_
                        refine z_iload_n (pc := 181) dX10_readsClause_181 rfl rfl ?_
                        first | refine z_imulN (pc := 182) (by with_reducible rfl) (by with_reducible rfl) dX10_readsClause_182 ?_ | refine z_imul (pc := 182) dX10_readsClause_182 ?_
                        refine z_iconst (pc := 183) (v := nI 3) dX10_readsClause_183 (by decide) ?_
                        first | refine z_iaddN (pc := 184) (by with_reducible rfl) (by with_reducible rfl) dX10_readsClause_184 ?_ | refine z_iadd (pc := 184) dX10_readsClause_184 ?_
                        refine z_ialoadv (pc := 185) dX10_readsClause_185 (by assumption) (by with_reducible rfl) (by omega) (by decide) (by first | assumption | exact y3 _ (by omega) | exact h84 _ | exact yz3 _ _ (by omega) | rfl) ?_
                        first | refine z_imulN (pc := 186) (by with_reducible rfl) (by with_reducible rfl) dX10_readsClause_186 ?_ | refine z_imul (pc := 186) dX10_readsClause_186 ?_
                        refine z_aload_n (pc := 187) dX10_readsClause_187 rfl rfl ?_
                        refine z_getR (pc := 188) dX10_readsClause_188 f_RX10_21 (by assumption) rfl ?_
                        refine z_iload (pc := 191) dX10_readsClause_191 rfl ?_
                        refine z_ialoadv (pc := 193) dX10_readsClause_193 (by assumption) (by with_reducible rfl) (by omega) (by decide) (by first | assumption | exact y3 _ (by omega) | exact h84 _ | exact yz3 _ _ (by omega) | rfl) ?_
                        first | refine z_iaddN (pc := 194) (by with_reducible rfl) (by with_reducible rfl) dX10_readsClause_194 ?_ | refine z_iadd (pc := 194) dX10_readsClause_194 ?_
                        refine z_bipush (pc := 195) (v := nI 48) dX10_readsClause_195 (by decide) ?_
                        first | refine z_isubN (pc := 197) (by with_reducible rfl) (by with_reducible rfl) dX10_readsClause_197 (by omega) ?_ | refine z_isub (pc := 197) dX10_readsClause_197 ?_
                        refine z_iastore (pc := 198) dX10_readsClause_198 (by assumption) (by with_reducible rfl) (by omega) (by decide) ?_
                        first | refine z_iincN (pc := 199) (c := 1) dX10_readsClause_199 rfl (by with_reducible rfl) (by decide) (by decide) rfl ?_ | refine z_iinc (pc := 199) dX10_readsClause_199 rfl rfl (by decide) rfl ?_
                        try dsimp only [zst1, zst2, zk]
                        refine z_iload (pc := 202) dX10_readsClause_202 rfl ?_
                        refine z_iret (pc := 204) dX10_readsClause_204 rfl ?_
                        first
                        | exact absurd hb106 (by omega)
                        | exact absurd hb112 (by omega)
                        | exact ⟨Or.inl ⟨by rw [eT], by rw [eT], zclr_s hk g2 g3⟩, g4, rfl⟩
                        | fail
                    · skip
                      try dsimp only [zov, Option.toList, List.cons_append, List.nil_append]
                      first | refine z_if_eqN (pc := 162) (tgt := 202) (by with_reducible rfl) dX10_readsClause_162 (by decide) (by omega) (fun hb162 => ?_) (fun hb162 => absurd hb162 (by decide)) | refine z_if_eq (pc := 162) (tgt := 202) dX10_readsClause_162 (by decide) (fun hb162 => ?_) (fun hb162 => absurd hb162 (by decide))
                      · skip
                        refine z_iload (pc := 202) dX10_readsClause_202 rfl ?_
                        refine z_iret (pc := 204) dX10_readsClause_204 rfl ?_
                        first
                        | exact absurd hb106 (by omega)
                        | exact absurd hb112 (by omega)
                        | exact ⟨Or.inl ⟨by rw [eT], by rw [eT], zclr_s hk g2 g3⟩, g4, rfl⟩
                        | fail
                · skip
                  try dsimp only [zov, Option.toList, List.cons_append, List.nil_append]
                  first | refine z_if_neN (pc := 124) (tgt := 133) (by with_reducible rfl) dX10_readsClause_124 (by decide) (by omega) (fun hb124 => absurd hb124 (by decide)) (fun hb124 => ?_) | refine z_if_ne (pc := 124) (tgt := 133) dX10_readsClause_124 (by decide) (fun hb124 => absurd hb124 (by decide)) (fun hb124 => ?_)
                  · skip
                    refine z_bipush (pc := 127) (v := -10) dX10_readsClause_127 (by decide) ?_
                    refine z_iload (pc := 129) dX10_readsClause_129 rfl ?_
                    first | refine z_isubN (pc := 131) (by with_reducible rfl) (by with_reducible rfl) dX10_readsClause_131 (by omega) ?_ | refine z_isub (pc := 131) dX10_readsClause_131 ?_
                    refine z_iret (pc := 132) dX10_readsClause_132 rfl ?_
                    first
                    | exact absurd hb106 (by omega)
                    | exact absurd hb112 (by omega)
                    | exact ⟨Or.inl ⟨by rw [eT], by rw [eT], zclr_s hk g2 g3⟩, g4, rfl⟩
                    | fail
              · skip
                refine z_iload (pc := 115) dX10_readsClause_115 rfl ?_
                refine z_iret (pc := 117) dX10_readsClause_117 rfl ?_
                first
                | exact absurd hb106 (by omega)
                | exact absurd hb112 (by omega)
                | exact ⟨Or.inl ⟨by rw [eT], by rw [eT], zclr_s hk g2 g3⟩, g4, rfl⟩
                | fail
          · skip
            have hD : zdg (tx a) = 2 := (by rw [hk]; rfl)
            have eT : zce len tx a = (false, a + 1 + j) := (by rw [zce_s ha hk, zde_f (zrun_v j 2 (a + 1) (by omega) g1 (Or.inr g2)) (by omega)])
            exact ⟨Or.inr ⟨by rw [eT], by rw [eT]⟩, g3, rfl⟩
        · refine l_X10_readsClause (d := 0) hM hX ha hkk (zdg (tx a)) 1 _ (by omega) (by omega) (fun j hj => absurd hj (by omega)) (zup_s _ _ _ _) (fun j h1 h2 => absurd h1 (by omega)) (zfc4_u (by omega)) (fun I1 g1 g2 g3 g4 => ?_) (fun I1 j hj g1 g2 g3 => ?_)
          · skip
            rw [show zdg (tx a) = 2 from zdg_o (by omega) (by omega)] at g1 g3 ⊢
            have hXn := zfc4_X g4 hX
            obtain ⟨y1, _, y3, _⟩ := id hXn
            refine z_iload_n (pc := 103) dX10_readsClause_103 rfl rfl ?_
            refine z_bipush (pc := 104) (v := nI 110) dX10_readsClause_104 (by decide) ?_
            first | refine z_icmp_eqN (pc := 106) (tgt := 118) (by with_reducible rfl) (by with_reducible rfl) dX10_readsClause_106 (by decide) (by omega) (by omega) (fun hb106 => ?_) (fun hb106 => ?_) | refine z_icmp_eq (pc := 106) (tgt := 118) dX10_readsClause_106 (by decide) (fun hb106 => ?_) (fun hb106 => ?_)
            · skip
              refine z_aload_n (pc := 118) dX10_readsClause_118 rfl rfl ?_
              refine z_iload (pc := 119) dX10_readsClause_119 rfl ?_
              refine z_callV (pc := 121) (c_X10_isDigit hM hXn (by omega)) dX10_readsClause_121 l_RX10_121 m_MX10_isDigit n_MX10_isDigit e_MX10_isDigit rfl (by omega) (by assumption) rfl rfl (Nat.le_of_ble_eq_true rfl) ?_
              rintro _ _ _ ⟨⟨rfl, hd3⟩ | ⟨rfl, hd3⟩, rfl, rfl⟩
              · have hd39 := zisb_lt hd3; have yz3 : ∀ (v : Int32) j, j < len → zup I1 84 (4 * k + 3) v 83 j = nI (tx j) := fun v j hj => (zup_n _ _ (by omega)).trans (y3 j hj); have h84 : ∀ (v : Int32), zup I1 84 (4 * k + 3) v 84 (4 * k + 3) = v := fun v => zup_s _ _ _ _; have hX3 : ∀ v, vMT (zup I1 84 (4 * k + 3) v) len tx := fun v => zfc4_X (zfc4_u (k := k) (by omega)) hXn
                try dsimp only [zov, Option.toList, List.cons_append, List.nil_append]
                first | refine z_if_neN (pc := 124) (tgt := 133) (by with_reducible rfl) dX10_readsClause_124 (by decide) (by omega) (fun hb124 => ?_) (fun hb124 => absurd hb124 (by decide)) | refine z_if_ne (pc := 124) (tgt := 133) dX10_readsClause_124 (by decide) (fun hb124 => ?_) (fun hb124 => absurd hb124 (by decide))
                · skip
                  refine z_aload_n (pc := 133) dX10_readsClause_133 rfl rfl ?_
                  refine z_getR (pc := 134) dX10_readsClause_134 f_RX10_24 (by assumption) rfl ?_
                  refine z_iconst (pc := 137) (v := nI 4) dX10_readsClause_137 (by decide) ?_
                  refine z_iload_n (pc := 138) dX10_readsClause_138 rfl rfl ?_
                  first | refine z_imulN (pc := 139) (by with_reducible rfl) (by with_reducible rfl) dX10_readsClause_139 ?_ | refine z_imul (pc := 139) dX10_readsClause_139 ?_
                  refine z_iconst (pc := 140) (v := nI 3) dX10_readsClause_140 (by decide) ?_
                  first | refine z_iaddN (pc := 141) (by with_reducible rfl) (by with_reducible rfl) dX10_readsClause_141 ?_ | refine z_iadd (pc := 141) dX10_readsClause_141 ?_
                  refine z_aload_n (pc := 142) dX10_readsClause_142 rfl rfl ?_
                  refine z_getR (pc := 143) dX10_readsClause_143 f_RX10_21 (by assumption) rfl ?_
                  refine z_iload (pc := 146) dX10_readsClause_146 rfl ?_
                  refine z_ialoadv (pc := 148) dX10_readsClause_148 (by assumption) (by with_reducible rfl) (by omega) (by decide) (by first | assumption | exact y3 _ (by omega) | exact h84 _ | exact yz3 _ _ (by omega) | rfl) ?_
                  refine z_bipush (pc := 149) (v := nI 48) dX10_readsClause_149 (by decide) ?_
                  first | refine z_isubN (pc := 151) (by with_reducible rfl) (by with_reducible rfl) dX10_readsClause_151 (by omega) ?_ | refine z_isub (pc := 151) dX10_readsClause_151 ?_
                  refine z_iastore (pc := 152) dX10_readsClause_152 (by assumption) (by with_reducible rfl) (by omega) (by decide) ?_
                  first | refine z_iincN (pc := 153) (c := 1) dX10_readsClause_153 rfl (by with_reducible rfl) (by decide) (by decide) rfl ?_ | refine z_iinc (pc := 153) dX10_readsClause_153 rfl rfl (by decide) rfl ?_
                  try dsimp only [zst1, zst2, zk]
                  refine z_aload_n (pc := 156) dX10_readsClause_156 rfl rfl ?_
                  refine z_iload (pc := 157) dX10_readsClause_157 rfl ?_
                  refine z_callV (pc := 159) (c_X10_isDigit hM (hX3 _) (by omega)) dX10_readsClause_159 l_RX10_121 m_MX10_isDigit n_MX10_isDigit e_MX10_isDigit rfl (by omega) (by assumption) rfl rfl (Nat.le_of_ble_eq_true rfl) ?_
                  rintro _ _ _ ⟨⟨rfl, hd4⟩ | ⟨rfl, hd4⟩, rfl, rfl⟩
                  · have hd49 := zisb_lt hd4
                    try dsimp only [zov, Option.toList, List.cons_append, List.nil_append]
                    first | refine z_if_eqN (pc := 162) (tgt := 202) (by with_reducible rfl) dX10_readsClause_162 (by decide) (by omega) (fun hb162 => absurd hb162 (by decide)) (fun hb162 => ?_) | refine z_if_eq (pc := 162) (tgt := 202) dX10_readsClause_162 (by decide) (fun hb162 => absurd hb162 (by decide)) (fun hb162 => ?_)
                    · skip
                      refine z_aload_n (pc := 165) dX10_readsClause_165 rfl rfl ?_
                      refine z_getR (pc := 166) dX10_readsClause_166 f_RX10_24 (by assumption) rfl ?_
                      refine z_iconst (pc := 169) (v := nI 4) dX10_readsClause_169 (by decide) ?_
                      refine z_iload_n (pc := 170) dX10_readsClause_170 rfl rfl ?_
                      first | refine z_imulN (pc := 171) (by with_reducible rfl) (by with_reducible rfl) dX10_readsClause_171 ?_ | refine z_imul (pc := 171) dX10_readsClause_171 ?_
                      refine z_iconst (pc := 172) (v := nI 3) dX10_readsClause_172 (by decide) ?_
                      first | refine z_iaddN (pc := 173) (by with_reducible rfl) (by with_reducible rfl) dX10_readsClause_173 ?_ | refine z_iadd (pc := 173) dX10_readsClause_173 ?_
                      refine z_bipush (pc := 174) (v := nI 10) dX10_readsClause_174 (by decide) ?_
                      refine z_aload_n (pc := 176) dX10_readsClause_176 rfl rfl ?_
                      refine z_getR (pc := 177) dX10_readsClause_177 f_RX10_24 (by assumption) rfl ?_
                      refine z_iconst (pc := 180) (v := nI 4) dX10_readsClause_180 (by decide) ?_
                      refine z_iload_n (pc := 181) dX10_readsClause_181 rfl rfl ?_
                      first | refine z_imulN (pc := 182) (by with_reducible rfl) (by with_reducible rfl) dX10_readsClause_182 ?_ | refine z_imul (pc := 182) dX10_readsClause_182 ?_
                      refine z_iconst (pc := 183) (v := nI 3) dX10_readsClause_183 (by decide) ?_
                      first | refine z_iaddN (pc := 184) (by with_reducible rfl) (by with_reducible rfl) dX10_readsClause_184 ?_ | refine z_iadd (pc := 184) dX10_readsClause_184 ?_
                      refine z_ialoadv (pc := 185) dX10_readsClause_185 (by assumption) (by with_reducible rfl) (by omega) (by decide) (by first | assumption | exact y3 _ (by omega) | exact h84 _ | exact yz3 _ _ (by omega) | rfl) ?_
                      first | refine z_imulN (pc := 186) (by with_reducible rfl) (by with_reducible rfl) dX10_readsClause_186 ?_ | refine z_imul (pc := 186) dX10_readsClause_186 ?_
                      refine z_aload_n (pc := 187) dX10_readsClause_187 rfl rfl ?_
                      refine z_getR (pc := 188) dX10_readsClause_188 f_RX10_21 (by assumption) rfl ?_
                      refine z_iload (pc := 191) dX10_readsClause_191 rfl ?_
                      refine z_ialoadv (pc := 193) dX10_readsClause_193 (by assumption) (by with_reducible rfl) (by omega) (by decide) (by first | assumption | exact y3 _ (by omega) | exact h84 _ | exact yz3 _ _ (by omega) | rfl) ?_
                      first | refine z_iaddN (pc := 194) (by with_reducible rfl) (by with_reducible rfl) dX10_readsClause_194 ?_ | refine z_iadd (pc := 194) dX10_readsClause_194 ?_
                      refine z_bipush (pc := 195) (v := nI 48) dX10_readsClause_195 (by decide) ?_
                      first | refine z_isubN (pc := 197) (by with_reducible rfl) (by with_reducible rfl) dX10_readsClause_197 (by omega) ?_ | refine z_isub (pc := 197) dX10_readsClause_197 ?_
                      refine z_iastore (pc := 198) dX10_readsClause_198 (by assumption) (by with_reducible rfl) (by omega) (by decide) ?_
                      first | refine z_iincN (pc := 199) (c := 1) dX10_readsClause_199 rfl (by with_reducible rfl) (by decide) (by decide) rfl ?_ | refine z_iinc (pc := 199) dX10_readsClause_199 rfl rfl (by decide) rfl ?_
                      try dsimp only [zst1, zst2, zk]
                      refine z_iload (pc := 202) dX10_readsClause_202 rfl ?_
                      refine z_iret (pc := 204) dX10_readsClause_204 rfl ?_
                      first
                      | exact absurd hk (by omega)
                      | (have eT : zce len tx a = (false, a + 3) := (by rw [zce_n ha hk, zde_f (zrun_v 2 4 (a + 1) (by omega) (fun i hi => g1 i hi) (Or.inr hd3)) (by omega)])
                         exact ⟨Or.inr ⟨by rw [eT], by rw [eT]⟩, g4, rfl⟩)
                      | (have eT : zce len tx a = (true, a + 5) := (by rw [zce_n ha hk, zde_t (zrun_v 4 4 (a + 1) (by omega) (fun i hi => (by
                           rcases (show i = 0 ∨ i = 1 ∨ i = 2 ∨ i = 3 by omega) with rfl | rfl | rfl | rfl
                           · exact g1 0 (by omega)
                           · exact g1 1 (by omega)
                           · exact hd3
                           · exact hd4)) (Or.inl rfl)) (by omega)])
                         exact ⟨Or.inl ⟨by rw [eT], by rw [eT], zclr_n (v := 10 * (tx (a + (2 + 1)) - 48) + tx (a + (2 + 1) + 1) - 48) (by rw [eT, if_neg (by omega)]; show _ = 10 * (tx (a + 3) - 48) + (tx (a + 4) - 48); rw [show a + (2 + 1) = a + 3 by omega, show a + 3 + 1 = a + 4 by omega] at *; omega) ((zup_n _ _ (by omega)).trans ((zup_n _ _ (by omega)).trans g2)) (fun j h1 h2 => (zup_n _ _ (by omega)).trans ((zup_n _ _ (by omega)).trans (g3 j h1 h2))) (zup_s _ _ _ _)⟩, zfc4_t (zfc4_t g4 (zfc4_u (by omega))) (zfc4_u (by omega)), rfl⟩)
                      | (have eT : zce len tx a = (true, a + 4) := (by rw [zce_n ha hk, zde_t (zrun_v 3 4 (a + 1) (by omega) (fun i hi => (by
                           rcases (show i = 0 ∨ i = 1 ∨ i = 2 by omega) with rfl | rfl | rfl
                           · exact g1 0 (by omega)
                           · exact g1 1 (by omega)
                           · exact hd3)) (Or.inr hd4)) (by omega)])
                         exact ⟨Or.inl ⟨by rw [eT], by rw [eT], zclr_n (v := tx (a + (2 + 1)) - 48) (by rw [eT, if_pos rfl]) ((zup_n _ _ (by omega)).trans g2) (fun j h1 h2 => (zup_n _ _ (by omega)).trans (g3 j h1 h2)) (zup_s _ _ _ _)⟩, zfc4_t g4 (zfc4_u (by omega)), rfl⟩)
                      | fail
                  · skip
                    try dsimp only [zov, Option.toList, List.cons_append, List.nil_append]
                    first | refine z_if_eqN (pc := 162) (tgt := 202) (by with_reducible rfl) dX10_readsClause_162 (by decide) (by omega) (fun hb162 => ?_) (fun hb162 => absurd hb162 (by decide)) | refine z_if_eq (pc := 162) (tgt := 202) dX10_readsClause_162 (by decide) (fun hb162 => ?_) (fun hb162 => absurd hb162 (by decide))
                    · skip
                      refine z_iload (pc := 202) dX10_readsClause_202 rfl ?_
                      refine z_iret (pc := 204) dX10_readsClause_204 rfl ?_
                      first
                      | exact absurd hk (by omega)
                      | (have eT : zce len tx a = (false, a + 3) := (by rw [zce_n ha hk, zde_f (zrun_v 2 4 (a + 1) (by omega) (fun i hi => g1 i hi) (Or.inr hd3)) (by omega)])
                         exact ⟨Or.inr ⟨by rw [eT], by rw [eT]⟩, g4, rfl⟩)
                      | (have eT : zce len tx a = (true, a + 5) := (by rw [zce_n ha hk, zde_t (zrun_v 4 4 (a + 1) (by omega) (fun i hi => (by
                           rcases (show i = 0 ∨ i = 1 ∨ i = 2 ∨ i = 3 by omega) with rfl | rfl | rfl | rfl
                           · exact g1 0 (by omega)
                           · exact g1 1 (by omega)
                           · exact hd3
                           · exact hd4)) (Or.inl rfl)) (by omega)])
                         exact ⟨Or.inl ⟨by rw [eT], by rw [eT], zclr_n (v := 10 * (tx (a + (2 + 1)) - 48) + tx (a + (2 + 1) + 1) - 48) (by rw [eT, if_neg (by omega)]; show _ = 10 * (tx (a + 3) - 48) + (tx (a + 4) - 48); rw [show a + (2 + 1) = a + 3 by omega, show a + 3 + 1 = a + 4 by omega] at *; omega) ((zup_n _ _ (by omega)).trans ((zup_n _ _ (by omega)).trans g2)) (fun j h1 h2 => (zup_n _ _ (by omega)).trans ((zup_n _ _ (by omega)).trans (g3 j h1 h2))) (zup_s _ _ _ _)⟩, zfc4_t (zfc4_t g4 (zfc4_u (by omega))) (zfc4_u (by omega)), rfl⟩)
                      | (have eT : zce len tx a = (true, a + 4) := (by rw [zce_n ha hk, zde_t (zrun_v 3 4 (a + 1) (by omega) (fun i hi => (by
                           rcases (show i = 0 ∨ i = 1 ∨ i = 2 by omega) with rfl | rfl | rfl
                           · exact g1 0 (by omega)
                           · exact g1 1 (by omega)
                           · exact hd3)) (Or.inr hd4)) (by omega)])
                         exact ⟨Or.inl ⟨by rw [eT], by rw [eT], zclr_n (v := tx (a + (2 + 1)) - 48) (by rw [eT, if_pos rfl]) ((zup_n _ _ (by omega)).trans g2) (fun j h1 h2 => (zup_n _ _ (by omega)).trans (g3 j h1 h2)) (zup_s _ _ _ _)⟩, zfc4_t g4 (zfc4_u (by omega)), rfl⟩)
                      | fail
              · skip
                try dsimp only [zov, Option.toList, List.cons_append, List.nil_append]
                first | refine z_if_neN (pc := 124) (tgt := 133) (by with_reducible rfl) dX10_readsClause_124 (by decide) (by omega) (fun hb124 => absurd hb124 (by decide)) (fun hb124 => ?_) | refine z_if_ne (pc := 124) (tgt := 133) dX10_readsClause_124 (by decide) (fun hb124 => absurd hb124 (by decide)) (fun hb124 => ?_)
                · skip
                  refine z_bipush (pc := 127) (v := -10) dX10_readsClause_127 (by decide) ?_
                  refine z_iload (pc := 129) dX10_readsClause_129 rfl ?_
                  first | refine z_isubN (pc := 131) (by with_reducible rfl) (by with_reducible rfl) dX10_readsClause_131 (by omega) ?_ | refine z_isub (pc := 131) dX10_readsClause_131 ?_
                  refine z_iret (pc := 132) dX10_readsClause_132 rfl ?_
                  first
                  | exact absurd hk (by omega)
                  | (have eT : zce len tx a = (false, a + 3) := (by rw [zce_n ha hk, zde_f (zrun_v 2 4 (a + 1) (by omega) (fun i hi => g1 i hi) (Or.inr hd3)) (by omega)])
                     exact ⟨Or.inr ⟨by rw [eT], by rw [eT]⟩, g4, rfl⟩)
                  | (have eT : zce len tx a = (true, a + 5) := (by rw [zce_n ha hk, zde_t (zrun_v 4 4 (a + 1) (by omega) (fun i hi => (by
                       rcases (show i = 0 ∨ i = 1 ∨ i = 2 ∨ i = 3 by omega) with rfl | rfl | rfl | rfl
                       · exact g1 0 (by omega)
                       · exact g1 1 (by omega)
                       · exact hd3
                       · exact hd4)) (Or.inl rfl)) (by omega)])
                     exact ⟨Or.inl ⟨by rw [eT], by rw [eT], zclr_n (v := 10 * (tx (a + (2 + 1)) - 48) + tx (a + (2 + 1) + 1) - 48) (by rw [eT, if_neg (by omega)]; show _ = 10 * (tx (a + 3) - 48) + (tx (a + 4) - 48); rw [show a + (2 + 1) = a + 3 by omega, show a + 3 + 1 = a + 4 by omega] at *; omega) ((zup_n _ _ (by omega)).trans ((zup_n _ _ (by omega)).trans g2)) (fun j h1 h2 => (zup_n _ _ (by omega)).trans ((zup_n _ _ (by omega)).trans (g3 j h1 h2))) (zup_s _ _ _ _)⟩, zfc4_t (zfc4_t g4 (zfc4_u (by omega))) (zfc4_u (by omega)), rfl⟩)
                  | (have eT : zce len tx a = (true, a + 4) := (by rw [zce_n ha hk, zde_t (zrun_v 3 4 (a + 1) (by omega) (fun i hi => (by
                       rcases (show i = 0 ∨ i = 1 ∨ i = 2 by omega) with rfl | rfl | rfl
                       · exact g1 0 (by omega)
                       · exact g1 1 (by omega)
                       · exact hd3)) (Or.inr hd4)) (by omega)])
                     exact ⟨Or.inl ⟨by rw [eT], by rw [eT], zclr_n (v := tx (a + (2 + 1)) - 48) (by rw [eT, if_pos rfl]) ((zup_n _ _ (by omega)).trans g2) (fun j h1 h2 => (zup_n _ _ (by omega)).trans (g3 j h1 h2)) (zup_s _ _ _ _)⟩, zfc4_t g4 (zfc4_u (by omega)), rfl⟩)
                  | fail
            · skip
              refine z_iload_n (pc := 109) dX10_readsClause_109 rfl rfl ?_
              refine z_bipush (pc := 110) (v := nI 109) dX10_readsClause_110 (by decide) ?_
              first | refine z_icmp_eqN (pc := 112) (tgt := 118) (by with_reducible rfl) (by with_reducible rfl) dX10_readsClause_112 (by decide) (by omega) (by omega) (fun hb112 => ?_) (fun hb112 => ?_) | refine z_icmp_eq (pc := 112) (tgt := 118) dX10_readsClause_112 (by decide) (fun hb112 => ?_) (fun hb112 => ?_)
              · skip
                refine z_aload_n (pc := 118) dX10_readsClause_118 rfl rfl ?_
                refine z_iload (pc := 119) dX10_readsClause_119 rfl ?_
                refine z_callV (pc := 121) (c_X10_isDigit hM hXn (by omega)) dX10_readsClause_121 l_RX10_121 m_MX10_isDigit n_MX10_isDigit e_MX10_isDigit rfl (by omega) (by assumption) rfl rfl (Nat.le_of_ble_eq_true rfl) ?_
                rintro _ _ _ ⟨⟨rfl, hd3⟩ | ⟨rfl, hd3⟩, rfl, rfl⟩
                · have hd39 := zisb_lt hd3; have yz3 : ∀ (v : Int32) j, j < len → zup I1 84 (4 * k + 3) v 83 j = nI (tx j) := fun v j hj => (zup_n _ _ (by omega)).trans (y3 j hj); have h84 : ∀ (v : Int32), zup I1 84 (4 * k + 3) v 84 (4 * k + 3) = v := fun v => zup_s _ _ _ _; have hX3 : ∀ v, vMT (zup I1 84 (4 * k + 3) v) len tx := fun v => zfc4_X (zfc4_u (k := k) (by omega)) hXn
                  try dsimp only [zov, Option.toList, List.cons_append, List.nil_append]
                  first | refine z_if_neN (pc := 124) (tgt := 133) (by with_reducible rfl) dX10_readsClause_124 (by decide) (by omega) (fun hb124 => ?_) (fun hb124 => absurd hb124 (by decide)) | refine z_if_ne (pc := 124) (tgt := 133) dX10_readsClause_124 (by decide) (fun hb124 => ?_) (fun hb124 => absurd hb124 (by decide))
                  · skip
                    refine z_aload_n (pc := 133) dX10_readsClause_133 rfl rfl ?_
                    refine z_getR (pc := 134) dX10_readsClause_134 f_RX10_24 (by assumption) rfl ?_
                    refine z_iconst (pc := 137) (v := nI 4) dX10_readsClause_137 (by decide) ?_
                    refine z_iload_n (pc := 138) dX10_readsClause_138 rfl rfl ?_
                    first | refine z_imulN (pc := 139) (by with_reducible rfl) (by with_reducible rfl) dX10_readsClause_139 ?_ | refine z_imul (pc := 139) dX10_readsClause_139 ?_
                    refine z_iconst (pc := 140) (v := nI 3) dX10_readsClause_140 (by decide) ?_
                    first | refine z_iaddN (pc := 141) (by with_reducible rfl) (by with_reducible rfl) dX10_readsClause_141 ?_ | refine z_iadd (pc := 141) dX10_readsClause_141 ?_
                    refine z_aload_n (pc := 142) dX10_readsClause_142 rfl rfl ?_
                    refine z_getR (pc := 143) dX10_readsClause_143 f_RX10_21 (by assumption) rfl ?_
                    refine z_iload (pc := 146) dX10_readsClause_146 rfl ?_
                    refine z_ialoadv (pc := 148) dX10_readsClause_148 (by assumption) (by with_reducible rfl) (by omega) (by decide) (by first | assumption | exact y3 _ (by omega) | exact h84 _ | exact yz3 _ _ (by omega) | rfl) ?_
                    refine z_bipush (pc := 149) (v := nI 48) dX10_readsClause_149 (by decide) ?_
                    first | refine z_isubN (pc := 151) (by with_reducible rfl) (by with_reducible rfl) dX10_readsClause_151 (by omega) ?_ | refine z_isub (pc := 151) dX10_readsClause_151 ?_
                    refine z_iastore (pc := 152) dX10_readsClause_152 (by assumption) (by with_reducible rfl) (by omega) (by decide) ?_
                    first | refine z_iincN (pc := 153) (c := 1) dX10_readsClause_153 rfl (by with_reducible rfl) (by decide) (by decide) rfl ?_ | refine z_iinc (pc := 153) dX10_readsClause_153 rfl rfl (by decide) rfl ?_
                    try dsimp only [zst1, zst2, zk]
                    refine z_aload_n (pc := 156) dX10_readsClause_156 rfl rfl ?_
                    refine z_iload (pc := 157) dX10_readsClause_157 rfl ?_
                    refine z_callV (pc := 159) (c_X10_isDigit hM (hX3 _) (by omega)) dX10_readsClause_159 l_RX10_121 m_MX10_isDigit n_MX10_isDigit e_MX10_isDigit rfl (by omega) (by assumption) rfl rfl (Nat.le_of_ble_eq_true rfl) ?_
                    rintro _ _ _ ⟨⟨rfl, hd4⟩ | ⟨rfl, hd4⟩, rfl, rfl⟩
                    · have hd49 := zisb_lt hd4
                      try dsimp only [zov, Option.toList, List.cons_append, List.nil_append]
                      first | refine z_if_eqN (pc := 162) (tgt := 202) (by with_reducible rfl) dX10_readsClause_162 (by decide) (by omega) (fun hb162 => absurd hb162 (by decide)) (fun hb162 => ?_) | refine z_if_eq (pc := 162) (tgt := 202) dX10_readsClause_162 (by decide) (fun hb162 => absurd hb162 (by decide)) (fun hb162 => ?_)
                      · skip
                        refine z_aload_n (pc := 165) dX10_readsClause_165 rfl rfl ?_
                        refine z_getR (pc := 166) dX10_readsClause_166 f_RX10_24 (by assumption) rfl ?_
                        refine z_iconst (pc := 169) (v := nI 4) dX10_readsClause_169 (by decide) ?_
                        refine z_iload_n (pc := 170) dX10_readsClause_170 rfl rfl ?_
                        first | refine z_imulN (pc := 171) (by with_reducible rfl) (by with_reducible rfl) dX10_readsClause_171 ?_ | refine z_imul (pc := 171) dX10_readsClause_171 ?_
                        refine z_iconst (pc := 172) (v := nI 3) dX10_readsClause_172 (by decide) ?_
                        first | refine z_iaddN (pc := 173) (by with_reducible rfl) (by with_reducible rfl) dX10_readsClause_173 ?_ | refine z_iadd (pc := 173) dX10_readsClause_173 ?_
                        refine z_bipush (pc := 174) (v := nI 10) dX10_readsClause_174 (by decide) ?_
                        refine z_aload_n (pc := 176) dX10_readsClause_176 rfl rfl ?_
                        refine z_getR (pc := 177) dX10_readsClause_177 f_RX10_24 (by assumption) rfl ?_
                        refine z_iconst (pc := 180) (v := nI 4) dX10_readsClause_180 (by decide) ?_
                        refine z_iload_n (pc := 181) dX10_readsClause_181 rfl rfl ?_
                        first | refine z_imulN (pc := 182) (by with_reducible rfl) (by with_reducible rfl) dX10_readsClause_182 ?_ | refine z_imul (pc := 182) dX10_readsClause_182 ?_
                        refine z_iconst (pc := 183) (v := nI 3) dX10_readsClause_183 (by decide) ?_
                        first | refine z_iaddN (pc := 184) (by with_reducible rfl) (by with_reducible rfl) dX10_readsClause_184 ?_ | refine z_iadd (pc := 184) dX10_readsClause_184 ?_
                        refine z_ialoadv (pc := 185) dX10_readsClause_185 (by assumption) (by with_reducible rfl) (by omega) (by decide) (by first | assumption | exact y3 _ (by omega) | exact h84 _ | exact yz3 _ _ (by omega) | rfl) ?_
                        first | refine z_imulN (pc := 186) (by with_reducible rfl) (by with_reducible rfl) dX10_readsClause_186 ?_ | refine z_imul (pc := 186) dX10_readsClause_186 ?_
                        refine z_aload_n (pc := 187) dX10_readsClause_187 rfl rfl ?_
                        refine z_getR (pc := 188) dX10_readsClause_188 f_RX10_21 (by assumption) rfl ?_
                        refine z_iload (pc := 191) dX10_readsClause_191 rfl ?_
                        refine z_ialoadv (pc := 193) dX10_readsClause_193 (by assumption) (by with_reducible rfl) (by omega) (by decide) (by first | assumption | exact y3 _ (by omega) | exact h84 _ | exact yz3 _ _ (by omega) | rfl) ?_
                        first | refine z_iaddN (pc := 194) (by with_reducible rfl) (by with_reducible rfl) dX10_readsClause_194 ?_ | refine z_iadd (pc := 194) dX10_readsClause_194 ?_
                        refine z_bipush (pc := 195) (v := nI 48) dX10_readsClause_195 (by decide) ?_
                        first | refine z_isubN (pc := 197) (by with_reducible rfl) (by with_reducible rfl) dX10_readsClause_197 (by omega) ?_ | refine z_isub (pc := 197) dX10_readsClause_197 ?_
                        refine z_iastore (pc := 198) dX10_readsClause_198 (by assumption) (by with_reducible rfl) (by omega) (by decide) ?_
                        first | refine z_iincN (pc := 199) (c := 1) dX10_readsClause_199 rfl (by with_reducible rfl) (by decide) (by decide) rfl ?_ | refine z_iinc (pc := 199) dX10_readsClause_199 rfl rfl (by decide) rfl ?_
                        try dsimp only [zst1, zst2, zk]
                        refine z_iload (pc := 202) dX10_readsClause_202 rfl ?_
                        refine z_iret (pc := 204) dX10_readsClause_204 rfl ?_
                        first
                        | exact absurd hk (by omega)
                        | (have eT : zce len tx a = (false, a + 3) := (by rw [zce_n ha hk, zde_f (zrun_v 2 4 (a + 1) (by omega) (fun i hi => g1 i hi) (Or.inr hd3)) (by omega)])
                           exact ⟨Or.inr ⟨by rw [eT], by rw [eT]⟩, g4, rfl⟩)
                        | (have eT : zce len tx a = (true, a + 5) := (by rw [zce_n ha hk, zde_t (zrun_v 4 4 (a + 1) (by omega) (fun i hi => (by
                             rcases (show i = 0 ∨ i = 1 ∨ i = 2 ∨ i = 3 by omega) with rfl | rfl | rfl | rfl
                             · exact g1 0 (by omega)
                             · exact g1 1 (by omega)
                             · exact hd3
                             · exact hd4)) (Or.inl rfl)) (by omega)])
                           exact ⟨Or.inl ⟨by rw [eT], by rw [eT], zclr_n (v := 10 * (tx (a + (2 + 1)) - 48) + tx (a + (2 + 1) + 1) - 48) (by rw [eT, if_neg (by omega)]; show _ = 10 * (tx (a + 3) - 48) + (tx (a + 4) - 48); rw [show a + (2 + 1) = a + 3 by omega, show a + 3 + 1 = a + 4 by omega] at *; omega) ((zup_n _ _ (by omega)).trans ((zup_n _ _ (by omega)).trans g2)) (fun j h1 h2 => (zup_n _ _ (by omega)).trans ((zup_n _ _ (by omega)).trans (g3 j h1 h2))) (zup_s _ _ _ _)⟩, zfc4_t (zfc4_t g4 (zfc4_u (by omega))) (zfc4_u (by omega)), rfl⟩)
                        | (have eT : zce len tx a = (true, a + 4) := (by rw [zce_n ha hk, zde_t (zrun_v 3 4 (a + 1) (by omega) (fun i hi => (by
                             rcases (show i = 0 ∨ i = 1 ∨ i = 2 by omega) with rfl | rfl | rfl
                             · exact g1 0 (by omega)
                             · exact g1 1 (by omega)
                             · exact hd3)) (Or.inr hd4)) (by omega)])
                           exact ⟨Or.inl ⟨by rw [eT], by rw [eT], zclr_n (v := tx (a + (2 + 1)) - 48) (by rw [eT, if_pos rfl]) ((zup_n _ _ (by omega)).trans g2) (fun j h1 h2 => (zup_n _ _ (by omega)).trans (g3 j h1 h2)) (zup_s _ _ _ _)⟩, zfc4_t g4 (zfc4_u (by omega)), rfl⟩)
                        | fail
                    · skip
                      try dsimp only [zov, Option.toList, List.cons_append, List.nil_append]
                      first | refine z_if_eqN (pc := 162) (tgt := 202) (by with_reducible rfl) dX10_readsClause_162 (by decide) (by omega) (fun hb162 => ?_) (fun hb162 => absurd hb162 (by decide)) | refine z_if_eq (pc := 162) (tgt := 202) dX10_readsClause_162 (by decide) (fun hb162 => ?_) (fun hb162 => absurd hb162 (by decide))
                      · skip
                        refine z_iload (pc := 202) dX10_readsClause_202 rfl ?_
                        refine z_iret (pc := 204) dX10_readsClause_204 rfl ?_
                        first
                        | exact absurd hk (by omega)
                        | (have eT : zce len tx a = (false, a + 3) := (by rw [zce_n ha hk, zde_f (zrun_v 2 4 (a + 1) (by omega) (fun i hi => g1 i hi) (Or.inr hd3)) (by omega)])
                           exact ⟨Or.inr ⟨by rw [eT], by rw [eT]⟩, g4, rfl⟩)
                        | (have eT : zce len tx a = (true, a + 5) := (by rw [zce_n ha hk, zde_t (zrun_v 4 4 (a + 1) (by omega) (fun i hi => (by
                             rcases (show i = 0 ∨ i = 1 ∨ i = 2 ∨ i = 3 by omega) with rfl | rfl | rfl | rfl
                             · exact g1 0 (by omega)
                             · exact g1 1 (by omega)
                             · exact hd3
                             · exact hd4)) (Or.inl rfl)) (by omega)])
                           exact ⟨Or.inl ⟨by rw [eT], by rw [eT], zclr_n (v := 10 * (tx (a + (2 + 1)) - 48) + tx (a + (2 + 1) + 1) - 48) (by rw [eT, if_neg (by omega)]; show _ = 10 * (tx (a + 3) - 48) + (tx (a + 4) - 48); rw [show a + (2 + 1) = a + 3 by omega, show a + 3 + 1 = a + 4 by omega] at *; omega) ((zup_n _ _ (by omega)).trans ((zup_n _ _ (by omega)).trans g2)) (fun j h1 h2 => (zup_n _ _ (by omega)).trans ((zup_n _ _ (by omega)).trans (g3 j h1 h2))) (zup_s _ _ _ _)⟩, zfc4_t (zfc4_t g4 (zfc4_u (by omega))) (zfc4_u (by omega)), rfl⟩)
                        | (have eT : zce len tx a = (true, a + 4) := (by rw [zce_n ha hk, zde_t (zrun_v 3 4 (a + 1) (by omega) (fun i hi => (by
                             rcases (show i = 0 ∨ i = 1 ∨ i = 2 by omega) with rfl | rfl | rfl
                             · exact g1 0 (by omega)
                             · exact g1 1 (by omega)
                             · exact hd3)) (Or.inr hd4)) (by omega)])
                           exact ⟨Or.inl ⟨by rw [eT], by rw [eT], zclr_n (v := tx (a + (2 + 1)) - 48) (by rw [eT, if_pos rfl]) ((zup_n _ _ (by omega)).trans g2) (fun j h1 h2 => (zup_n _ _ (by omega)).trans (g3 j h1 h2)) (zup_s _ _ _ _)⟩, zfc4_t g4 (zfc4_u (by omega)), rfl⟩)
                        | fail
                · skip
                  try dsimp only [zov, Option.toList, List.cons_append, List.nil_append]
                  first | refine z_if_neN (pc := 124) (tgt := 133) (by with_reducible rfl) dX10_readsClause_124 (by decide) (by omega) (fun hb124 => absurd hb124 (by decide)) (fun hb124 => ?_) | refine z_if_ne (pc := 124) (tgt := 133) dX10_readsClause_124 (by decide) (fun hb124 => absurd hb124 (by decide)) (fun hb124 => ?_)
                  · skip
                    refine z_bipush (pc := 127) (v := -10) dX10_readsClause_127 (by decide) ?_
                    refine z_iload (pc := 129) dX10_readsClause_129 rfl ?_
                    first | refine z_isubN (pc := 131) (by with_reducible rfl) (by with_reducible rfl) dX10_readsClause_131 (by omega) ?_ | refine z_isub (pc := 131) dX10_readsClause_131 ?_
                    refine z_iret (pc := 132) dX10_readsClause_132 rfl ?_
                    first
                    | exact absurd hk (by omega)
                    | (have eT : zce len tx a = (false, a + 3) := (by rw [zce_n ha hk, zde_f (zrun_v 2 4 (a + 1) (by omega) (fun i hi => g1 i hi) (Or.inr hd3)) (by omega)])
                       exact ⟨Or.inr ⟨by rw [eT], by rw [eT]⟩, g4, rfl⟩)
                    | (have eT : zce len tx a = (true, a + 5) := (by rw [zce_n ha hk, zde_t (zrun_v 4 4 (a + 1) (by omega) (fun i hi => (by
                         rcases (show i = 0 ∨ i = 1 ∨ i = 2 ∨ i = 3 by omega) with rfl | rfl | rfl | rfl
                         · exact g1 0 (by omega)
                         · exact g1 1 (by omega)
                         · exact hd3
                         · exact hd4)) (Or.inl rfl)) (by omega)])
                       exact ⟨Or.inl ⟨by rw [eT], by rw [eT], zclr_n (v := 10 * (tx (a + (2 + 1)) - 48) + tx (a + (2 + 1) + 1) - 48) (by rw [eT, if_neg (by omega)]; show _ = 10 * (tx (a + 3) - 48) + (tx (a + 4) - 48); rw [show a + (2 + 1) = a + 3 by omega, show a + 3 + 1 = a + 4 by omega] at *; omega) ((zup_n _ _ (by omega)).trans ((zup_n _ _ (by omega)).trans g2)) (fun j h1 h2 => (zup_n _ _ (by omega)).trans ((zup_n _ _ (by omega)).trans (g3 j h1 h2))) (zup_s _ _ _ _)⟩, zfc4_t (zfc4_t g4 (zfc4_u (by omega))) (zfc4_u (by omega)), rfl⟩)
                    | (have eT : zce len tx a = (true, a + 4) := (by rw [zce_n ha hk, zde_t (zrun_v 3 4 (a + 1) (by omega) (fun i hi => (by
                         rcases (show i = 0 ∨ i = 1 ∨ i = 2 by omega) with rfl | rfl | rfl
                         · exact g1 0 (by omega)
                         · exact g1 1 (by omega)
                         · exact hd3)) (Or.inr hd4)) (by omega)])
                       exact ⟨Or.inl ⟨by rw [eT], by rw [eT], zclr_n (v := tx (a + (2 + 1)) - 48) (by rw [eT, if_pos rfl]) ((zup_n _ _ (by omega)).trans g2) (fun j h1 h2 => (zup_n _ _ (by omega)).trans (g3 j h1 h2)) (zup_s _ _ _ _)⟩, zfc4_t g4 (zfc4_u (by omega)), rfl⟩)
                    | fail
              · skip
                refine z_iload (pc := 115) dX10_readsClause_115 rfl ?_
                refine z_iret (pc := 117) dX10_readsClause_117 rfl ?_
                first
                | exact absurd hk (by omega)
                | (have eT : zce len tx a = (false, a + 3) := (by rw [zce_n ha hk, zde_f (zrun_v 2 4 (a + 1) (by omega) (fun i hi => g1 i hi) (Or.inr hd3)) (by omega)])
                   exact ⟨Or.inr ⟨by rw [eT], by rw [eT]⟩, g4, rfl⟩)
                | (have eT : zce len tx a = (true, a + 5) := (by rw [zce_n ha hk, zde_t (zrun_v 4 4 (a + 1) (by omega) (fun i hi => (by
                     rcases (show i = 0 ∨ i = 1 ∨ i = 2 ∨ i = 3 by omega) with rfl | rfl | rfl | rfl
                     · exact g1 0 (by omega)
                     · exact g1 1 (by omega)
                     · exact hd3
                     · exact hd4)) (Or.inl rfl)) (by omega)])
                   exact ⟨Or.inl ⟨by rw [eT], by rw [eT], zclr_n (v := 10 * (tx (a + (2 + 1)) - 48) + tx (a + (2 + 1) + 1) - 48) (by rw [eT, if_neg (by omega)]; show _ = 10 * (tx (a + 3) - 48) + (tx (a + 4) - 48); rw [show a + (2 + 1) = a + 3 by omega, show a + 3 + 1 = a + 4 by omega] at *; omega) ((zup_n _ _ (by omega)).trans ((zup_n _ _ (by omega)).trans g2)) (fun j h1 h2 => (zup_n _ _ (by omega)).trans ((zup_n _ _ (by omega)).trans (g3 j h1 h2))) (zup_s _ _ _ _)⟩, zfc4_t (zfc4_t g4 (zfc4_u (by omega))) (zfc4_u (by omega)), rfl⟩)
                | (have eT : zce len tx a = (true, a + 4) := (by rw [zce_n ha hk, zde_t (zrun_v 3 4 (a + 1) (by omega) (fun i hi => (by
                     rcases (show i = 0 ∨ i = 1 ∨ i = 2 by omega) with rfl | rfl | rfl
                     · exact g1 0 (by omega)
                     · exact g1 1 (by omega)
                     · exact hd3)) (Or.inr hd4)) (by omega)])
                   exact ⟨Or.inl ⟨by rw [eT], by rw [eT], zclr_n (v := tx (a + (2 + 1)) - 48) (by rw [eT, if_pos rfl]) ((zup_n _ _ (by omega)).trans g2) (fun j h1 h2 => (zup_n _ _ (by omega)).trans (g3 j h1 h2)) (zup_s _ _ _ _)⟩, zfc4_t g4 (zfc4_u (by omega)), rfl⟩)
                | fail
          · skip
            have hD : zdg (tx a) = 2 := zdg_o (by omega) (by omega)
            have eT : zce len tx a = (false, a + 1 + j) := (by rw [zce_n ha hk, zde_f (zrun_v j 4 (a + 1) (by omega) g1 (Or.inr g2)) (by omega)])
            exact ⟨Or.inr ⟨by rw [eT], by rw [eT]⟩, g3, rfl⟩
        · refine l_X10_readsClause (d := 0) hM hX ha hkk (zdg (tx a)) 1 _ (by omega) (by omega) (fun j hj => absurd hj (by omega)) (zup_s _ _ _ _) (fun j h1 h2 => absurd h1 (by omega)) (zfc4_u (by omega)) (fun I1 g1 g2 g3 g4 => ?_) (fun I1 j hj g1 g2 g3 => ?_)
          · skip
            rw [show zdg (tx a) = 3 by rw [hk]; rfl] at g1 g3 ⊢
            have hXn := zfc4_X g4 hX
            obtain ⟨y1, _, y3, _⟩ := id hXn
            have eT : zce len tx a = (true, a + 4) := (by rw [zce_k ha hk, zde_t (zrun_v 3 3 (a + 1) (by omega) (fun i hi => g1 i hi) (Or.inl rfl)) (by omega)])
            refine z_iload_n (pc := 103) dX10_readsClause_103 rfl rfl ?_
            refine z_bipush (pc := 104) (v := nI 110) dX10_readsClause_104 (by decide) ?_
            first | refine z_icmp_eqN (pc := 106) (tgt := 118) (by with_reducible rfl) (by with_reducible rfl) dX10_readsClause_106 (by decide) (by omega) (by omega) (fun hb106 => ?_) (fun hb106 => ?_) | refine z_icmp_eq (pc := 106) (tgt := 118) dX10_readsClause_106 (by decide) (fun hb106 => ?_) (fun hb106 => ?_)
            · skip
              refine z_aload_n (pc := 118) dX10_readsClause_118 rfl rfl ?_
              refine z_iload (pc := 119) dX10_readsClause_119 rfl ?_
              refine z_callV (pc := 121) (c_X10_isDigit hM hXn (by omega)) dX10_readsClause_121 l_RX10_121 m_MX10_isDigit n_MX10_isDigit e_MX10_isDigit rfl (by omega) (by assumption) rfl rfl (Nat.le_of_ble_eq_true rfl) ?_
              rintro _ _ _ ⟨⟨rfl, hd3⟩ | ⟨rfl, hd3⟩, rfl, rfl⟩
              · have hd39 := zisb_lt hd3; have yz3 : ∀ (v : Int32) j, j < len → zup I1 84 (4 * k + 3) v 83 j = nI (tx j) := fun v j hj => (zup_n _ _ (by omega)).trans (y3 j hj); have h84 : ∀ (v : Int32), zup I1 84 (4 * k + 3) v 84 (4 * k + 3) = v := fun v => zup_s _ _ _ _; have hX3 : ∀ v, vMT (zup I1 84 (4 * k + 3) v) len tx := fun v => zfc4_X (zfc4_u (k := k) (by omega)) hXn
                try dsimp only [zov, Option.toList, List.cons_append, List.nil_append]
                first | refine z_if_neN (pc := 124) (tgt := 133) (by with_reducible rfl) dX10_readsClause_124 (by decide) (by omega) (fun hb124 => ?_) (fun hb124 => absurd hb124 (by decide)) | refine z_if_ne (pc := 124) (tgt := 133) dX10_readsClause_124 (by decide) (fun hb124 => ?_) (fun hb124 => absurd hb124 (by decide))
                · skip
                  refine z_aload_n (pc := 133) dX10_readsClause_133 rfl rfl ?_
                  refine z_getR (pc := 134) dX10_readsClause_134 f_RX10_24 (by assumption) rfl ?_
                  refine z_iconst (pc := 137) (v := nI 4) dX10_readsClause_137 (by decide) ?_
                  refine z_iload_n (pc := 138) dX10_readsClause_138 rfl rfl ?_
                  first | refine z_imulN (pc := 139) (by with_reducible rfl) (by with_reducible rfl) dX10_readsClause_139 ?_ | refine z_imul (pc := 139) dX10_readsClause_139 ?_
                  refine z_iconst (pc := 140) (v := nI 3) dX10_readsClause_140 (by decide) ?_
                  first | refine z_iaddN (pc := 141) (by with_reducible rfl) (by with_reducible rfl) dX10_readsClause_141 ?_ | refine z_iadd (pc := 141) dX10_readsClause_141 ?_
                  refine z_aload_n (pc := 142) dX10_readsClause_142 rfl rfl ?_
                  refine z_getR (pc := 143) dX10_readsClause_143 f_RX10_21 (by assumption) rfl ?_
                  refine z_iload (pc := 146) dX10_readsClause_146 rfl ?_
                  refine z_ialoadv (pc := 148) dX10_readsClause_148 (by assumption) (by with_reducible rfl) (by omega) (by decide) (by first | assumption | exact y3 _ (by omega) | exact h84 _ | exact yz3 _ _ (by omega) | rfl) ?_
                  refine z_bipush (pc := 149) (v := nI 48) dX10_readsClause_149 (by decide) ?_
                  first | refine z_isubN (pc := 151) (by with_reducible rfl) (by with_reducible rfl) dX10_readsClause_151 (by omega) ?_ | refine z_isub (pc := 151) dX10_readsClause_151 ?_
                  refine z_iastore (pc := 152) dX10_readsClause_152 (by assumption) (by with_reducible rfl) (by omega) (by decide) ?_
                  first | refine z_iincN (pc := 153) (c := 1) dX10_readsClause_153 rfl (by with_reducible rfl) (by decide) (by decide) rfl ?_ | refine z_iinc (pc := 153) dX10_readsClause_153 rfl rfl (by decide) rfl ?_
                  try dsimp only [zst1, zst2, zk]
                  refine z_aload_n (pc := 156) dX10_readsClause_156 rfl rfl ?_
                  refine z_iload (pc := 157) dX10_readsClause_157 rfl ?_
                  refine z_callV (pc := 159) (c_X10_isDigit hM (hX3 _) (by omega)) dX10_readsClause_159 l_RX10_121 m_MX10_isDigit n_MX10_isDigit e_MX10_isDigit rfl (by omega) (by assumption) rfl rfl (Nat.le_of_ble_eq_true rfl) ?_
                  rintro _ _ _ ⟨⟨rfl, hd4⟩ | ⟨rfl, hd4⟩, rfl, rfl⟩
                  · have hd49 := zisb_lt hd4
                    try dsimp only [zov, Option.toList, List.cons_append, List.nil_append]
                    first | refine z_if_eqN (pc := 162) (tgt := 202) (by with_reducible rfl) dX10_readsClause_162 (by decide) (by omega) (fun hb162 => absurd hb162 (by decide)) (fun hb162 => ?_) | refine z_if_eq (pc := 162) (tgt := 202) dX10_readsClause_162 (by decide) (fun hb162 => absurd hb162 (by decide)) (fun hb162 => ?_)
                    · skip
                      refine z_aload_n (pc := 165) dX10_readsClause_165 rfl rfl ?_
                      refine z_getR (pc := 166) dX10_readsClause_166 f_RX10_24 (by assumption) rfl ?_
                      refine z_iconst (pc := 169) (v := nI 4) dX10_readsClause_169 (by decide) ?_
                      refine z_iload_n (pc := 170) dX10_readsClause_170 rfl rfl ?_
                      first | refine z_imulN (pc := 171) (by with_reducible rfl) (by with_reducible rfl) dX10_readsClause_171 ?_ | refine z_imul (pc := 171) dX10_readsClause_171 ?_
                      refine z_iconst (pc := 172) (v := nI 3) dX10_readsClause_172 (by decide) ?_
                      first | refine z_iaddN (pc := 173) (by with_reducible rfl) (by with_reducible rfl) dX10_readsClause_173 ?_ | refine z_iadd (pc := 173) dX10_readsClause_173 ?_
                      refine z_bipush (pc := 174) (v := nI 10) dX10_readsClause_174 (by decide) ?_
                      refine z_aload_n (pc := 176) dX10_readsClause_176 rfl rfl ?_
                      refine z_getR (pc := 177) dX10_readsClause_177 f_RX10_24 (by assumption) rfl ?_
                      refine z_iconst (pc := 180) (v := nI 4) dX10_readsClause_180 (by decide) ?_
                      refine z_iload_n (pc := 181) dX10_readsClause_181 rfl rfl ?_
                      first | refine z_imulN (pc := 182) (by with_reducible rfl) (by with_reducible rfl) dX10_readsClause_182 ?_ | refine z_imul (pc := 182) dX10_readsClause_182 ?_
                      refine z_iconst (pc := 183) (v := nI 3) dX10_readsClause_183 (by decide) ?_
                      first | refine z_iaddN (pc := 184) (by with_reducible rfl) (by with_reducible rfl) dX10_readsClause_184 ?_ | refine z_iadd (pc := 184) dX10_readsClause_184 ?_
                      refine z_ialoadv (pc := 185) dX10_readsClause_185 (by assumption) (by with_reducible rfl) (by omega) (by decide) (by first | assumption | exact y3 _ (by omega) | exact h84 _ | exact yz3 _ _ (by omega) | rfl) ?_
                      first | refine z_imulN (pc := 186) (by with_reducible rfl) (by with_reducible rfl) dX10_readsClause_186 ?_ | refine z_imul (pc := 186) dX10_readsClause_186 ?_
                      refine z_aload_n (pc := 187) dX10_readsClause_187 rfl rfl ?_
                      refine z_getR (pc := 188) dX10_readsClause_188 f_RX10_21 (by assumption) rfl ?_
                      refine z_iload (pc := 191) dX10_readsClause_191 rfl ?_
                      refine z_ialoadv (pc := 193) dX10_readsClause_193 (by assumption) (by with_reducible rfl) (by omega) (by decide) (by first | assumption | exact y3 _ (by omega) | exact h84 _ | exact yz3 _ _ (by omega) | rfl) ?_
                      first | refine z_iaddN (pc := 194) (by with_reducible rfl) (by with_reducible rfl) dX10_readsClause_194 ?_ | refine z_iadd (pc := 194) dX10_readsClause_194 ?_
                      refine z_bipush (pc := 195) (v := nI 48) dX10_readsClause_195 (by decide) ?_
                      first | refine z_isubN (pc := 197) (by with_reducible rfl) (by with_reducible rfl) dX10_readsClause_197 (by omega) ?_ | refine z_isub (pc := 197) dX10_readsClause_197 ?_
                      refine z_iastore (pc := 198) dX10_readsClause_198 (by assumption) (by with_reducible rfl) (by omega) (by decide) ?_
                      first | refine z_iincN (pc := 199) (c := 1) dX10_readsClause_199 rfl (by with_reducible rfl) (by decide) (by decide) rfl ?_ | refine z_iinc (pc := 199) dX10_readsClause_199 rfl rfl (by decide) rfl ?_
                      try dsimp only [zst1, zst2, zk]
                      refine z_iload (pc := 202) dX10_readsClause_202 rfl ?_
                      refine z_iret (pc := 204) dX10_readsClause_204 rfl ?_
                      first
                      | exact absurd hb106 (by omega)
                      | exact absurd hb112 (by omega)
                      | exact ⟨Or.inl ⟨by rw [eT], by rw [eT], zclr_k (by rw [eT]) g2 g3⟩, g4, rfl⟩
                      | fail
                  · skip
                    try dsimp only [zov, Option.toList, List.cons_append, List.nil_append]
                    first | refine z_if_eqN (pc := 162) (tgt := 202) (by with_reducible rfl) dX10_readsClause_162 (by decide) (by omega) (fun hb162 => ?_) (fun hb162 => absurd hb162 (by decide)) | refine z_if_eq (pc := 162) (tgt := 202) dX10_readsClause_162 (by decide) (fun hb162 => ?_) (fun hb162 => absurd hb162 (by decide))
                    · skip
                      refine z_iload (pc := 202) dX10_readsClause_202 rfl ?_
                      refine z_iret (pc := 204) dX10_readsClause_204 rfl ?_
                      first
                      | exact absurd hb106 (by omega)
                      | exact absurd hb112 (by omega)
                      | exact ⟨Or.inl ⟨by rw [eT], by rw [eT], zclr_k (by rw [eT]) g2 g3⟩, g4, rfl⟩
                      | fail
              · skip
                try dsimp only [zov, Option.toList, List.cons_append, List.nil_append]
                first | refine z_if_neN (pc := 124) (tgt := 133) (by with_reducible rfl) dX10_readsClause_124 (by decide) (by omega) (fun hb124 => absurd hb124 (by decide)) (fun hb124 => ?_) | refine z_if_ne (pc := 124) (tgt := 133) dX10_readsClause_124 (by decide) (fun hb124 => absurd hb124 (by decide)) (fun hb124 => ?_)
                · skip
                  refine z_bipush (pc := 127) (v := -10) dX10_readsClause_127 (by decide) ?_
                  refine z_iload (pc := 129) dX10_readsClause_129 rfl ?_
                  first | refine z_isubN (pc := 131) (by with_reducible rfl) (by with_reducible rfl) dX10_readsClause_131 (by omega) ?_ | refine z_isub (pc := 131) dX10_readsClause_131 ?_
                  refine z_iret (pc := 132) dX10_readsClause_132 rfl ?_
                  first
                  | exact absurd hb106 (by omega)
                  | exact absurd hb112 (by omega)
                  | exact ⟨Or.inl ⟨by rw [eT], by rw [eT], zclr_k (by rw [eT]) g2 g3⟩, g4, rfl⟩
                  | fail
            · skip
              refine z_iload_n (pc := 109) dX10_readsClause_109 rfl rfl ?_
              refine z_bipush (pc := 110) (v := nI 109) dX10_readsClause_110 (by decide) ?_
              first | refine z_icmp_eqN (pc := 112) (tgt := 118) (by with_reducible rfl) (by with_reducible rfl) dX10_readsClause_112 (by decide) (by omega) (by omega) (fun hb112 => ?_) (fun hb112 => ?_) | refine z_icmp_eq (pc := 112) (tgt := 118) dX10_readsClause_112 (by decide) (fun hb112 => ?_) (fun hb112 => ?_)
              · skip
                refine z_aload_n (pc := 118) dX10_readsClause_118 rfl rfl ?_
                refine z_iload (pc := 119) dX10_readsClause_119 rfl ?_
                refine z_callV (pc := 121) (c_X10_isDigit hM hXn (by omega)) dX10_readsClause_121 l_RX10_121 m_MX10_isDigit n_MX10_isDigit e_MX10_isDigit rfl (by omega) (by assumption) rfl rfl (Nat.le_of_ble_eq_true rfl) ?_
                rintro _ _ _ ⟨⟨rfl, hd3⟩ | ⟨rfl, hd3⟩, rfl, rfl⟩
                · have hd39 := zisb_lt hd3; have yz3 : ∀ (v : Int32) j, j < len → zup I1 84 (4 * k + 3) v 83 j = nI (tx j) := fun v j hj => (zup_n _ _ (by omega)).trans (y3 j hj); have h84 : ∀ (v : Int32), zup I1 84 (4 * k + 3) v 84 (4 * k + 3) = v := fun v => zup_s _ _ _ _; have hX3 : ∀ v, vMT (zup I1 84 (4 * k + 3) v) len tx := fun v => zfc4_X (zfc4_u (k := k) (by omega)) hXn
                  try dsimp only [zov, Option.toList, List.cons_append, List.nil_append]
                  first | refine z_if_neN (pc := 124) (tgt := 133) (by with_reducible rfl) dX10_readsClause_124 (by decide) (by omega) (fun hb124 => ?_) (fun hb124 => absurd hb124 (by decide)) | refine z_if_ne (pc := 124) (tgt := 133) dX10_readsClause_124 (by decide) (fun hb124 => ?_) (fun hb124 => absurd hb124 (by decide))
                  · skip
                    refine z_aload_n (pc := 133) dX10_readsClause_133 rfl rfl ?_
                    refine z_getR (pc := 134) dX10_readsClause_134 f_RX10_24 (by assumption) rfl ?_
                    refine z_iconst (pc := 137) (v := nI 4) dX10_readsClause_137 (by decide) ?_
                    refine z_iload_n (pc := 138) dX10_readsClause_138 rfl rfl ?_
                    first | refine z_imulN (pc := 139) (by with_reducible rfl) (by with_reducible rfl) dX10_readsClause_139 ?_ | refine z_imul (pc := 139) dX10_readsClause_139 ?_
                    refine z_iconst (pc := 140) (v := nI 3) dX10_readsClause_140 (by decide) ?_
                    first | refine z_iaddN (pc := 141) (by with_reducible rfl) (by with_reducible rfl) dX10_readsClause_141 ?_ | refine z_iadd (pc := 141) dX10_readsClause_141 ?_
                    refine z_aload_n (pc := 142) dX10_readsClause_142 rfl rfl ?_
                    refine z_getR (pc := 143) dX10_readsClause_143 f_RX10_21 (by assumption) rfl ?_
                    refine z_iload (pc := 146) dX10_readsClause_146 rfl ?_
                    refine z_ialoadv (pc := 148) dX10_readsClause_148 (by assumption) (by with_reducible rfl) (by omega) (by decide) (by first | assumption | exact y3 _ (by omega) | exact h84 _ | exact yz3 _ _ (by omega) | rfl) ?_
                    refine z_bipush (pc := 149) (v := nI 48) dX10_readsClause_149 (by decide) ?_
                    first | refine z_isubN (pc := 151) (by with_reducible rfl) (by with_reducible rfl) dX10_readsClause_151 (by omega) ?_ | refine z_isub (pc := 151) dX10_readsClause_151 ?_
                    refine z_iastore (pc := 152) dX10_readsClause_152 (by assumption) (by with_reducible rfl) (by omega) (by decide) ?_
                    first | refine z_iincN (pc := 153) (c := 1) dX10_readsClause_153 rfl (by with_reducible rfl) (by decide) (by decide) rfl ?_ | refine z_iinc (pc := 153) dX10_readsClause_153 rfl rfl (by decide) rfl ?_
                    try dsimp only [zst1, zst2, zk]
                    refine z_aload_n (pc := 156) dX10_readsClause_156 rfl rfl ?_
                    refine z_iload (pc := 157) dX10_readsClause_157 rfl ?_
                    refine z_callV (pc := 159) (c_X10_isDigit hM (hX3 _) (by omega)) dX10_readsClause_159 l_RX10_121 m_MX10_isDigit n_MX10_isDigit e_MX10_isDigit rfl (by omega) (by assumption) rfl rfl (Nat.le_of_ble_eq_true rfl) ?_
                    rintro _ _ _ ⟨⟨rfl, hd4⟩ | ⟨rfl, hd4⟩, rfl, rfl⟩
                    · have hd49 := zisb_lt hd4
                      try dsimp only [zov, Option.toList, List.cons_append, List.nil_append]
                      first | refine z_if_eqN (pc := 162) (tgt := 202) (by with_reducible rfl) dX10_readsClause_162 (by decide) (by omega) (fun hb162 => absurd hb162 (by decide)) (fun hb162 => ?_) | refine z_if_eq (pc := 162) (tgt := 202) dX10_readsClause_162 (by decide) (fun hb162 => absurd hb162 (by decide)) (fun hb162 => ?_)
                      · skip
                        refine z_aload_n (pc := 165) dX10_readsClause_165 rfl rfl ?_
                        refine z_getR (pc := 166) dX10_readsClause_166 f_RX10_24 (by assumption) rfl ?_
                        refine z_iconst (pc := 169) (v := nI 4) dX10_readsClause_169 (by decide) ?_
                        refine z_iload_n (pc := 170) dX10_readsClause_170 rfl rfl ?_
                        first | refine z_imulN (pc := 171) (by with_reducible rfl) (by with_reducible rfl) dX10_readsClause_171 ?_ | refine z_imul (pc := 171) dX10_readsClause_171 ?_
                        refine z_iconst (pc := 172) (v := nI 3) dX10_readsClause_172 (by decide) ?_
                        first | refine z_iaddN (pc := 173) (by with_reducible rfl) (by with_reducible rfl) dX10_readsClause_173 ?_ | refine z_iadd (pc := 173) dX10_readsClause_173 ?_
                        refine z_bipush (pc := 174) (v := nI 10) dX10_readsClause_174 (by decide) ?_
                        refine z_aload_n (pc := 176) dX10_readsClause_176 rfl rfl ?_
                        refine z_getR (pc := 177) dX10_readsClause_177 f_RX10_24 (by assumption) rfl ?_
                        refine z_iconst (pc := 180) (v := nI 4) dX10_readsClause_180 (by decide) ?_
                        refine z_iload_n (pc := 181) dX10_readsClause_181 rfl rfl ?_
                        first | refine z_imulN (pc := 182) (by with_reducible rfl) (by with_reducible rfl) dX10_readsClause_182 ?_ | refine z_imul (pc := 182) dX10_readsClause_182 ?_
                        refine z_iconst (pc := 183) (v := nI 3) dX10_readsClause_183 (by decide) ?_
                        first | refine z_iaddN (pc := 184) (by with_reducible rfl) (by with_reducible rfl) dX10_readsClause_184 ?_ | refine z_iadd (pc := 184) dX10_readsClause_184 ?_
                        refine z_ialoadv (pc := 185) dX10_readsClause_185 (by assumption) (by with_reducible rfl) (by omega) (by decide) (by first | assumption | exact y3 _ (by omega) | exact h84 _ | exact yz3 _ _ (by omega) | rfl) ?_
                        first | refine z_imulN (pc := 186) (by with_reducible rfl) (by with_reducible rfl) dX10_readsClause_186 ?_ | refine z_imul (pc := 186) dX10_readsClause_186 ?_
                        refine z_aload_n (pc := 187) dX10_readsClause_187 rfl rfl ?_
                        refine z_getR (pc := 188) dX10_readsClause_188 f_RX10_21 (by assumption) rfl ?_
                        refine z_iload (pc := 191) dX10_readsClause_191 rfl ?_
                        refine z_ialoadv (pc := 193) dX10_readsClause_193 (by assumption) (by with_reducible rfl) (by omega) (by decide) (by first | assumption | exact y3 _ (by omega) | exact h84 _ | exact yz3 _ _ (by omega) | rfl) ?_
                        first | refine z_iaddN (pc := 194) (by with_reducible rfl) (by with_reducible rfl) dX10_readsClause_194 ?_ | refine z_iadd (pc := 194) dX10_readsClause_194 ?_
                        refine z_bipush (pc := 195) (v := nI 48) dX10_readsClause_195 (by decide) ?_
                        first | refine z_isubN (pc := 197) (by with_reducible rfl) (by with_reducible rfl) dX10_readsClause_197 (by omega) ?_ | refine z_isub (pc := 197) dX10_readsClause_197 ?_
                        refine z_iastore (pc := 198) dX10_readsClause_198 (by assumption) (by with_reducible rfl) (by omega) (by decide) ?_
                        first | refine z_iincN (pc := 199) (c := 1) dX10_readsClause_199 rfl (by with_reducible rfl) (by decide) (by decide) rfl ?_ | refine z_iinc (pc := 199) dX10_readsClause_199 rfl rfl (by decide) rfl ?_
                        try dsimp only [zst1, zst2, zk]
                        refine z_iload (pc := 202) dX10_readsClause_202 rfl ?_
                        refine z_iret (pc := 204) dX10_readsClause_204 rfl ?_
                        first
                        | exact absurd hb106 (by omega)
                        | exact absurd hb112 (by omega)
                        | exact ⟨Or.inl ⟨by rw [eT], by rw [eT], zclr_k (by rw [eT]) g2 g3⟩, g4, rfl⟩
                        | fail
                    · skip
                      try dsimp only [zov, Option.toList, List.cons_append, List.nil_append]
                      first | refine z_if_eqN (pc := 162) (tgt := 202) (by with_reducible rfl) dX10_readsClause_162 (by decide) (by omega) (fun hb162 => ?_) (fun hb162 => absurd hb162 (by decide)) | refine z_if_eq (pc := 162) (tgt := 202) dX10_readsClause_162 (by decide) (fun hb162 => ?_) (fun hb162 => absurd hb162 (by decide))
                      · skip
                        refine z_iload (pc := 202) dX10_readsClause_202 rfl ?_
                        refine z_iret (pc := 204) dX10_readsClause_204 rfl ?_
                        first
                        | exact absurd hb106 (by omega)
                        | exact absurd hb112 (by omega)
                        | exact ⟨Or.inl ⟨by rw [eT], by rw [eT], zclr_k (by rw [eT]) g2 g3⟩, g4, rfl⟩
                        | fail
                · skip
                  try dsimp only [zov, Option.toList, List.cons_append, List.nil_append]
                  first | refine z_if_neN (pc := 124) (tgt := 133) (by with_reducible rfl) dX10_readsClause_124 (by decide) (by omega) (fun hb124 => absurd hb124 (by decide)) (fun hb124 => ?_) | refine z_if_ne (pc := 124) (tgt := 133) dX10_readsClause_124 (by decide) (fun hb124 => absurd hb124 (by decide)) (fun hb124 => ?_)
                  · skip
                    refine z_bipush (pc := 127) (v := -10) dX10_readsClause_127 (by decide) ?_
                    refine z_iload (pc := 129) dX10_readsClause_129 rfl ?_
                    first | refine z_isubN (pc := 131) (by with_reducible rfl) (by with_reducible rfl) dX10_readsClause_131 (by omega) ?_ | refine z_isub (pc := 131) dX10_readsClause_131 ?_
                    refine z_iret (pc := 132) dX10_readsClause_132 rfl ?_
                    first
                    | exact absurd hb106 (by omega)
                    | exact absurd hb112 (by omega)
                    | exact ⟨Or.inl ⟨by rw [eT], by rw [eT], zclr_k (by rw [eT]) g2 g3⟩, g4, rfl⟩
                    | fail
              · skip
                refine z_iload (pc := 115) dX10_readsClause_115 rfl ?_
                refine z_iret (pc := 117) dX10_readsClause_117 rfl ?_
                first
                | exact absurd hb106 (by omega)
                | exact absurd hb112 (by omega)
                | exact ⟨Or.inl ⟨by rw [eT], by rw [eT], zclr_k (by rw [eT]) g2 g3⟩, g4, rfl⟩
                | fail
          · skip
            have hD : zdg (tx a) = 3 := (by rw [hk]; rfl)
            have eT : zce len tx a = (false, a + 1 + j) := (by rw [zce_k ha hk, zde_f (zrun_v j 3 (a + 1) (by omega) g1 (Or.inr g2)) (by omega)])
            exact ⟨Or.inr ⟨by rw [eT], by rw [eT]⟩, g3, rfl⟩
        · refine l_X10_readsClause (d := 0) hM hX ha hkk (zdg (tx a)) 1 _ (by omega) (by omega) (fun j hj => absurd hj (by omega)) (zup_s _ _ _ _) (fun j h1 h2 => absurd h1 (by omega)) (zfc4_u (by omega)) (fun I1 g1 g2 g3 g4 => ?_) (fun I1 j hj g1 g2 g3 => ?_)
          · skip
            rw [show zdg (tx a) = 0 by rw [hk]; rfl] at g1 g3 ⊢
            have hXn := zfc4_X g4 hX
            obtain ⟨y1, _, y3, _⟩ := id hXn
            have eT : zce len tx a = (true, a + 1) := zce_x ha hk
            refine z_iload_n (pc := 103) dX10_readsClause_103 rfl rfl ?_
            refine z_bipush (pc := 104) (v := nI 110) dX10_readsClause_104 (by decide) ?_
            first | refine z_icmp_eqN (pc := 106) (tgt := 118) (by with_reducible rfl) (by with_reducible rfl) dX10_readsClause_106 (by decide) (by omega) (by omega) (fun hb106 => ?_) (fun hb106 => ?_) | refine z_icmp_eq (pc := 106) (tgt := 118) dX10_readsClause_106 (by decide) (fun hb106 => ?_) (fun hb106 => ?_)
            · skip
              refine z_aload_n (pc := 118) dX10_readsClause_118 rfl rfl ?_
              refine z_iload (pc := 119) dX10_readsClause_119 rfl ?_
              refine z_callV (pc := 121) (c_X10_isDigit hM hXn (by omega)) dX10_readsClause_121 l_RX10_121 m_MX10_isDigit n_MX10_isDigit e_MX10_isDigit rfl (by omega) (by assumption) rfl rfl (Nat.le_of_ble_eq_true rfl) ?_
              rintro _ _ _ ⟨⟨rfl, hd3⟩ | ⟨rfl, hd3⟩, rfl, rfl⟩
              · have hd39 := zisb_lt hd3; have yz3 : ∀ (v : Int32) j, j < len → zup I1 84 (4 * k + 3) v 83 j = nI (tx j) := fun v j hj => (zup_n _ _ (by omega)).trans (y3 j hj); have h84 : ∀ (v : Int32), zup I1 84 (4 * k + 3) v 84 (4 * k + 3) = v := fun v => zup_s _ _ _ _; have hX3 : ∀ v, vMT (zup I1 84 (4 * k + 3) v) len tx := fun v => zfc4_X (zfc4_u (k := k) (by omega)) hXn
                try dsimp only [zov, Option.toList, List.cons_append, List.nil_append]
                first | refine z_if_neN (pc := 124) (tgt := 133) (by with_reducible rfl) dX10_readsClause_124 (by decide) (by omega) (fun hb124 => ?_) (fun hb124 => absurd hb124 (by decide)) | refine z_if_ne (pc := 124) (tgt := 133) dX10_readsClause_124 (by decide) (fun hb124 => ?_) (fun hb124 => absurd hb124 (by decide))
                · skip
                  refine z_aload_n (pc := 133) dX10_readsClause_133 rfl rfl ?_
                  refine z_getR (pc := 134) dX10_readsClause_134 f_RX10_24 (by assumption) rfl ?_
                  refine z_iconst (pc := 137) (v := nI 4) dX10_readsClause_137 (by decide) ?_
                  refine z_iload_n (pc := 138) dX10_readsClause_138 rfl rfl ?_
                  first | refine z_imulN (pc := 139) (by with_reducible rfl) (by with_reducible rfl) dX10_readsClause_139 ?_ | refine z_imul (pc := 139) dX10_readsClause_139 ?_
                  refine z_iconst (pc := 140) (v := nI 3) dX10_readsClause_140 (by decide) ?_
                  first | refine z_iaddN (pc := 141) (by with_reducible rfl) (by with_reducible rfl) dX10_readsClause_141 ?_ | refine z_iadd (pc := 141) dX10_readsClause_141 ?_
                  refine z_aload_n (pc := 142) dX10_readsClause_142 rfl rfl ?_
                  refine z_getR (pc := 143) dX10_readsClause_143 f_RX10_21 (by assumption) rfl ?_
                  refine z_iload (pc := 146) dX10_readsClause_146 rfl ?_
                  refine z_ialoadv (pc := 148) dX10_readsClause_148 (by assumption) (by with_reducible rfl) (by omega) (by decide) (by first | assumption | exact y3 _ (by omega) | exact h84 _ | exact yz3 _ _ (by omega) | rfl) ?_
                  refine z_bipush (pc := 149) (v := nI 48) dX10_readsClause_149 (by decide) ?_
                  first | refine z_isubN (pc := 151) (by with_reducible rfl) (by with_reducible rfl) dX10_readsClause_151 (by omega) ?_ | refine z_isub (pc := 151) dX10_readsClause_151 ?_
                  refine z_iastore (pc := 152) dX10_readsClause_152 (by assumption) (by with_reducible rfl) (by omega) (by decide) ?_
                  first | refine z_iincN (pc := 153) (c := 1) dX10_readsClause_153 rfl (by with_reducible rfl) (by decide) (by decide) rfl ?_ | refine z_iinc (pc := 153) dX10_readsClause_153 rfl rfl (by decide) rfl ?_
                  try dsimp only [zst1, zst2, zk]
                  refine z_aload_n (pc := 156) dX10_readsClause_156 rfl rfl ?_
                  refine z_iload (pc := 157) dX10_readsClause_157 rfl ?_
                  refine z_callV (pc := 159) (c_X10_isDigit hM (hX3 _) (by omega)) dX10_readsClause_159 l_RX10_121 m_MX10_isDigit n_MX10_isDigit e_MX10_isDigit rfl (by omega) (by assumption) rfl rfl (Nat.le_of_ble_eq_true rfl) ?_
                  rintro _ _ _ ⟨⟨rfl, hd4⟩ | ⟨rfl, hd4⟩, rfl, rfl⟩
                  · have hd49 := zisb_lt hd4
                    try dsimp only [zov, Option.toList, List.cons_append, List.nil_append]
                    first | refine z_if_eqN (pc := 162) (tgt := 202) (by with_reducible rfl) dX10_readsClause_162 (by decide) (by omega) (fun hb162 => absurd hb162 (by decide)) (fun hb162 => ?_) | refine z_if_eq (pc := 162) (tgt := 202) dX10_readsClause_162 (by decide) (fun hb162 => absurd hb162 (by decide)) (fun hb162 => ?_)
                    · skip
                      refine z_aload_n (pc := 165) dX10_readsClause_165 rfl rfl ?_
                      refine z_getR (pc := 166) dX10_readsClause_166 f_RX10_24 (by assumption) rfl ?_
                      refine z_iconst (pc := 169) (v := nI 4) dX10_readsClause_169 (by decide) ?_
                      refine z_iload_n (pc := 170) dX10_readsClause_170 rfl rfl ?_
                      first | refine z_imulN (pc := 171) (by with_reducible rfl) (by with_reducible rfl) dX10_readsClause_171 ?_ | refine z_imul (pc := 171) dX10_readsClause_171 ?_
                      refine z_iconst (pc := 172) (v := nI 3) dX10_readsClause_172 (by decide) ?_
                      first | refine z_iaddN (pc := 173) (by with_reducible rfl) (by with_reducible rfl) dX10_readsClause_173 ?_ | refine z_iadd (pc := 173) dX10_readsClause_173 ?_
                      refine z_bipush (pc := 174) (v := nI 10) dX10_readsClause_174 (by decide) ?_
                      refine z_aload_n (pc := 176) dX10_readsClause_176 rfl rfl ?_
                      refine z_getR (pc := 177) dX10_readsClause_177 f_RX10_24 (by assumption) rfl ?_
                      refine z_iconst (pc := 180) (v := nI 4) dX10_readsClause_180 (by decide) ?_
                      refine z_iload_n (pc := 181) dX10_readsClause_181 rfl rfl ?_
                      first | refine z_imulN (pc := 182) (by with_reducible rfl) (by with_reducible rfl) dX10_readsClause_182 ?_ | refine z_imul (pc := 182) dX10_readsClause_182 ?_
                      refine z_iconst (pc := 183) (v := nI 3) dX10_readsClause_183 (by decide) ?_
                      first | refine z_iaddN (pc := 184) (by with_reducible rfl) (by with_reducible rfl) dX10_readsClause_184 ?_ | refine z_iadd (pc := 184) dX10_readsClause_184 ?_
                      refine z_ialoadv (pc := 185) dX10_readsClause_185 (by assumption) (by with_reducible rfl) (by omega) (by decide) (by first | assumption | exact y3 _ (by omega) | exact h84 _ | exact yz3 _ _ (by omega) | rfl) ?_
                      first | refine z_imulN (pc := 186) (by with_reducible rfl) (by with_reducible rfl) dX10_readsClause_186 ?_ | refine z_imul (pc := 186) dX10_readsClause_186 ?_
                      refine z_aload_n (pc := 187) dX10_readsClause_187 rfl rfl ?_
                      refine z_getR (pc := 188) dX10_readsClause_188 f_RX10_21 (by assumption) rfl ?_
                      refine z_iload (pc := 191) dX10_readsClause_191 rfl ?_
                      refine z_ialoadv (pc := 193) dX10_readsClause_193 (by assumption) (by with_reducible rfl) (by omega) (by decide) (by first | assumption | exact y3 _ (by omega) | exact h84 _ | exact yz3 _ _ (by omega) | rfl) ?_
                      first | refine z_iaddN (pc := 194) (by with_reducible rfl) (by with_reducible rfl) dX10_readsClause_194 ?_ | refine z_iadd (pc := 194) dX10_readsClause_194 ?_
                      refine z_bipush (pc := 195) (v := nI 48) dX10_readsClause_195 (by decide) ?_
                      first | refine z_isubN (pc := 197) (by with_reducible rfl) (by with_reducible rfl) dX10_readsClause_197 (by omega) ?_ | refine z_isub (pc := 197) dX10_readsClause_197 ?_
                      refine z_iastore (pc := 198) dX10_readsClause_198 (by assumption) (by with_reducible rfl) (by omega) (by decide) ?_
                      first | refine z_iincN (pc := 199) (c := 1) dX10_readsClause_199 rfl (by with_reducible rfl) (by decide) (by decide) rfl ?_ | refine z_iinc (pc := 199) dX10_readsClause_199 rfl rfl (by decide) rfl ?_
                      try dsimp only [zst1, zst2, zk]
                      refine z_iload (pc := 202) dX10_readsClause_202 rfl ?_
                      refine z_iret (pc := 204) dX10_readsClause_204 rfl ?_
                      first
                      | exact absurd hb106 (by omega)
                      | exact absurd hb112 (by omega)
                      | exact ⟨Or.inl ⟨by rw [eT], by rw [eT], zclr_x hk g2⟩, g4, rfl⟩
                      | fail
                  · skip
                    try dsimp only [zov, Option.toList, List.cons_append, List.nil_append]
                    first | refine z_if_eqN (pc := 162) (tgt := 202) (by with_reducible rfl) dX10_readsClause_162 (by decide) (by omega) (fun hb162 => ?_) (fun hb162 => absurd hb162 (by decide)) | refine z_if_eq (pc := 162) (tgt := 202) dX10_readsClause_162 (by decide) (fun hb162 => ?_) (fun hb162 => absurd hb162 (by decide))
                    · skip
                      refine z_iload (pc := 202) dX10_readsClause_202 rfl ?_
                      refine z_iret (pc := 204) dX10_readsClause_204 rfl ?_
                      first
                      | exact absurd hb106 (by omega)
                      | exact absurd hb112 (by omega)
                      | exact ⟨Or.inl ⟨by rw [eT], by rw [eT], zclr_x hk g2⟩, g4, rfl⟩
                      | fail
              · skip
                try dsimp only [zov, Option.toList, List.cons_append, List.nil_append]
                first | refine z_if_neN (pc := 124) (tgt := 133) (by with_reducible rfl) dX10_readsClause_124 (by decide) (by omega) (fun hb124 => absurd hb124 (by decide)) (fun hb124 => ?_) | refine z_if_ne (pc := 124) (tgt := 133) dX10_readsClause_124 (by decide) (fun hb124 => absurd hb124 (by decide)) (fun hb124 => ?_)
                · skip
                  refine z_bipush (pc := 127) (v := -10) dX10_readsClause_127 (by decide) ?_
                  refine z_iload (pc := 129) dX10_readsClause_129 rfl ?_
                  first | refine z_isubN (pc := 131) (by with_reducible rfl) (by with_reducible rfl) dX10_readsClause_131 (by omega) ?_ | refine z_isub (pc := 131) dX10_readsClause_131 ?_
                  refine z_iret (pc := 132) dX10_readsClause_132 rfl ?_
                  first
                  | exact absurd hb106 (by omega)
                  | exact absurd hb112 (by omega)
                  | exact ⟨Or.inl ⟨by rw [eT], by rw [eT], zclr_x hk g2⟩, g4, rfl⟩
                  | fail
            · skip
              refine z_iload_n (pc := 109) dX10_readsClause_109 rfl rfl ?_
              refine z_bipush (pc := 110) (v := nI 109) dX10_readsClause_110 (by decide) ?_
              first | refine z_icmp_eqN (pc := 112) (tgt := 118) (by with_reducible rfl) (by with_reducible rfl) dX10_readsClause_112 (by decide) (by omega) (by omega) (fun hb112 => ?_) (fun hb112 => ?_) | refine z_icmp_eq (pc := 112) (tgt := 118) dX10_readsClause_112 (by decide) (fun hb112 => ?_) (fun hb112 => ?_)
              · skip
                refine z_aload_n (pc := 118) dX10_readsClause_118 rfl rfl ?_
                refine z_iload (pc := 119) dX10_readsClause_119 rfl ?_
                refine z_callV (pc := 121) (c_X10_isDigit hM hXn (by omega)) dX10_readsClause_121 l_RX10_121 m_MX10_isDigit n_MX10_isDigit e_MX10_isDigit rfl (by omega) (by assumption) rfl rfl (Nat.le_of_ble_eq_true rfl) ?_
                rintro _ _ _ ⟨⟨rfl, hd3⟩ | ⟨rfl, hd3⟩, rfl, rfl⟩
                · have hd39 := zisb_lt hd3; have yz3 : ∀ (v : Int32) j, j < len → zup I1 84 (4 * k + 3) v 83 j = nI (tx j) := fun v j hj => (zup_n _ _ (by omega)).trans (y3 j hj); have h84 : ∀ (v : Int32), zup I1 84 (4 * k + 3) v 84 (4 * k + 3) = v := fun v => zup_s _ _ _ _; have hX3 : ∀ v, vMT (zup I1 84 (4 * k + 3) v) len tx := fun v => zfc4_X (zfc4_u (k := k) (by omega)) hXn
                  try dsimp only [zov, Option.toList, List.cons_append, List.nil_append]
                  first | refine z_if_neN (pc := 124) (tgt := 133) (by with_reducible rfl) dX10_readsClause_124 (by decide) (by omega) (fun hb124 => ?_) (fun hb124 => absurd hb124 (by decide)) | refine z_if_ne (pc := 124) (tgt := 133) dX10_readsClause_124 (by decide) (fun hb124 => ?_) (fun hb124 => absurd hb124 (by decide))
                  · skip
                    refine z_aload_n (pc := 133) dX10_readsClause_133 rfl rfl ?_
                    refine z_getR (pc := 134) dX10_readsClause_134 f_RX10_24 (by assumption) rfl ?_
                    refine z_iconst (pc := 137) (v := nI 4) dX10_readsClause_137 (by decide) ?_
                    refine z_iload_n (pc := 138) dX10_readsClause_138 rfl rfl ?_
                    first | refine z_imulN (pc := 139) (by with_reducible rfl) (by with_reducible rfl) dX10_readsClause_139 ?_ | refine z_imul (pc := 139) dX10_readsClause_139 ?_
                    refine z_iconst (pc := 140) (v := nI 3) dX10_readsClause_140 (by decide) ?_
                    first | refine z_iaddN (pc := 141) (by with_reducible rfl) (by with_reducible rfl) dX10_readsClause_141 ?_ | refine z_iadd (pc := 141) dX10_readsClause_141 ?_
                    refine z_aload_n (pc := 142) dX10_readsClause_142 rfl rfl ?_
                    refine z_getR (pc := 143) dX10_readsClause_143 f_RX10_21 (by assumption) rfl ?_
                    refine z_iload (pc := 146) dX10_readsClause_146 rfl ?_
                    refine z_ialoadv (pc := 148) dX10_readsClause_148 (by assumption) (by with_reducible rfl) (by omega) (by decide) (by first | assumption | exact y3 _ (by omega) | exact h84 _ | exact yz3 _ _ (by omega) | rfl) ?_
                    refine z_bipush (pc := 149) (v := nI 48) dX10_readsClause_149 (by decide) ?_
                    first | refine z_isubN (pc := 151) (by with_reducible rfl) (by with_reducible rfl) dX10_readsClause_151 (by omega) ?_ | refine z_isub (pc := 151) dX10_readsClause_151 ?_
                    refine z_iastore (pc := 152) dX10_readsClause_152 (by assumption) (by with_reducible rfl) (by omega) (by decide) ?_
                    first | refine z_iincN (pc := 153) (c := 1) dX10_readsClause_153 rfl (by with_reducible rfl) (by decide) (by decide) rfl ?_ | refine z_iinc (pc := 153) dX10_readsClause_153 rfl rfl (by decide) rfl ?_
                    try dsimp only [zst1, zst2, zk]
                    refine z_aload_n (pc := 156) dX10_readsClause_156 rfl rfl ?_
                    refine z_iload (pc := 157) dX10_readsClause_157 rfl ?_
                    refine z_callV (pc := 159) (c_X10_isDigit hM (hX3 _) (by omega)) dX10_readsClause_159 l_RX10_121 m_MX10_isDigit n_MX10_isDigit e_MX10_isDigit rfl (by omega) (by assumption) rfl rfl (Nat.le_of_ble_eq_true rfl) ?_
                    rintro _ _ _ ⟨⟨rfl, hd4⟩ | ⟨rfl, hd4⟩, rfl, rfl⟩
                    · have hd49 := zisb_lt hd4
                      try dsimp only [zov, Option.toList, List.cons_append, List.nil_append]
                      first | refine z_if_eqN (pc := 162) (tgt := 202) (by with_reducible rfl) dX10_readsClause_162 (by decide) (by omega) (fun hb162 => absurd hb162 (by decide)) (fun hb162 => ?_) | refine z_if_eq (pc := 162) (tgt := 202) dX10_readsClause_162 (by decide) (fun hb162 => absurd hb162 (by decide)) (fun hb162 => ?_)
                      · skip
                        refine z_aload_n (pc := 165) dX10_readsClause_165 rfl rfl ?_
                        refine z_getR (pc := 166) dX10_readsClause_166 f_RX10_24 (by assumption) rfl ?_
                        refine z_iconst (pc := 169) (v := nI 4) dX10_readsClause_169 (by decide) ?_
                        refine z_iload_n (pc := 170) dX10_readsClause_170 rfl rfl ?_
                        first | refine z_imulN (pc := 171) (by with_reducible rfl) (by with_reducible rfl) dX10_readsClause_171 ?_ | refine z_imul (pc := 171) dX10_readsClause_171 ?_
                        refine z_iconst (pc := 172) (v := nI 3) dX10_readsClause_172 (by decide) ?_
                        first | refine z_iaddN (pc := 173) (by with_reducible rfl) (by with_reducible rfl) dX10_readsClause_173 ?_ | refine z_iadd (pc := 173) dX10_readsClause_173 ?_
                        refine z_bipush (pc := 174) (v := nI 10) dX10_readsClause_174 (by decide) ?_
                        refine z_aload_n (pc := 176) dX10_readsClause_176 rfl rfl ?_
                        refine z_getR (pc := 177) dX10_readsClause_177 f_RX10_24 (by assumption) rfl ?_
                        refine z_iconst (pc := 180) (v := nI 4) dX10_readsClause_180 (by decide) ?_
                        refine z_iload_n (pc := 181) dX10_readsClause_181 rfl rfl ?_
                        first | refine z_imulN (pc := 182) (by with_reducible rfl) (by with_reducible rfl) dX10_readsClause_182 ?_ | refine z_imul (pc := 182) dX10_readsClause_182 ?_
                        refine z_iconst (pc := 183) (v := nI 3) dX10_readsClause_183 (by decide) ?_
                        first | refine z_iaddN (pc := 184) (by with_reducible rfl) (by with_reducible rfl) dX10_readsClause_184 ?_ | refine z_iadd (pc := 184) dX10_readsClause_184 ?_
                        refine z_ialoadv (pc := 185) dX10_readsClause_185 (by assumption) (by with_reducible rfl) (by omega) (by decide) (by first | assumption | exact y3 _ (by omega) | exact h84 _ | exact yz3 _ _ (by omega) | rfl) ?_
                        first | refine z_imulN (pc := 186) (by with_reducible rfl) (by with_reducible rfl) dX10_readsClause_186 ?_ | refine z_imul (pc := 186) dX10_readsClause_186 ?_
                        refine z_aload_n (pc := 187) dX10_readsClause_187 rfl rfl ?_
                        refine z_getR (pc := 188) dX10_readsClause_188 f_RX10_21 (by assumption) rfl ?_
                        refine z_iload (pc := 191) dX10_readsClause_191 rfl ?_
                        refine z_ialoadv (pc := 193) dX10_readsClause_193 (by assumption) (by with_reducible rfl) (by omega) (by decide) (by first | assumption | exact y3 _ (by omega) | exact h84 _ | exact yz3 _ _ (by omega) | rfl) ?_
                        first | refine z_iaddN (pc := 194) (by with_reducible rfl) (by with_reducible rfl) dX10_readsClause_194 ?_ | refine z_iadd (pc := 194) dX10_readsClause_194 ?_
                        refine z_bipush (pc := 195) (v := nI 48) dX10_readsClause_195 (by decide) ?_
                        first | refine z_isubN (pc := 197) (by with_reducible rfl) (by with_reducible rfl) dX10_readsClause_197 (by omega) ?_ | refine z_isub (pc := 197) dX10_readsClause_197 ?_
                        refine z_iastore (pc := 198) dX10_readsClause_198 (by assumption) (by with_reducible rfl) (by omega) (by decide) ?_
                        first | refine z_iincN (pc := 199) (c := 1) dX10_readsClause_199 rfl (by with_reducible rfl) (by decide) (by decide) rfl ?_ | refine z_iinc (pc := 199) dX10_readsClause_199 rfl rfl (by decide) rfl ?_
                        try dsimp only [zst1, zst2, zk]
                        refine z_iload (pc := 202) dX10_readsClause_202 rfl ?_
                        refine z_iret (pc := 204) dX10_readsClause_204 rfl ?_
                        first
                        | exact absurd hb106 (by omega)
                        | exact absurd hb112 (by omega)
                        | exact ⟨Or.inl ⟨by rw [eT], by rw [eT], zclr_x hk g2⟩, g4, rfl⟩
                        | fail
                    · skip
                      try dsimp only [zov, Option.toList, List.cons_append, List.nil_append]
                      first | refine z_if_eqN (pc := 162) (tgt := 202) (by with_reducible rfl) dX10_readsClause_162 (by decide) (by omega) (fun hb162 => ?_) (fun hb162 => absurd hb162 (by decide)) | refine z_if_eq (pc := 162) (tgt := 202) dX10_readsClause_162 (by decide) (fun hb162 => ?_) (fun hb162 => absurd hb162 (by decide))
                      · skip
                        refine z_iload (pc := 202) dX10_readsClause_202 rfl ?_
                        refine z_iret (pc := 204) dX10_readsClause_204 rfl ?_
                        first
                        | exact absurd hb106 (by omega)
                        | exact absurd hb112 (by omega)
                        | exact ⟨Or.inl ⟨by rw [eT], by rw [eT], zclr_x hk g2⟩, g4, rfl⟩
                        | fail
                · skip
                  try dsimp only [zov, Option.toList, List.cons_append, List.nil_append]
                  first | refine z_if_neN (pc := 124) (tgt := 133) (by with_reducible rfl) dX10_readsClause_124 (by decide) (by omega) (fun hb124 => absurd hb124 (by decide)) (fun hb124 => ?_) | refine z_if_ne (pc := 124) (tgt := 133) dX10_readsClause_124 (by decide) (fun hb124 => absurd hb124 (by decide)) (fun hb124 => ?_)
                  · skip
                    refine z_bipush (pc := 127) (v := -10) dX10_readsClause_127 (by decide) ?_
                    refine z_iload (pc := 129) dX10_readsClause_129 rfl ?_
                    first | refine z_isubN (pc := 131) (by with_reducible rfl) (by with_reducible rfl) dX10_readsClause_131 (by omega) ?_ | refine z_isub (pc := 131) dX10_readsClause_131 ?_
                    refine z_iret (pc := 132) dX10_readsClause_132 rfl ?_
                    first
                    | exact absurd hb106 (by omega)
                    | exact absurd hb112 (by omega)
                    | exact ⟨Or.inl ⟨by rw [eT], by rw [eT], zclr_x hk g2⟩, g4, rfl⟩
                    | fail
              · skip
                refine z_iload (pc := 115) dX10_readsClause_115 rfl ?_
                refine z_iret (pc := 117) dX10_readsClause_117 rfl ?_
                first
                | exact absurd hb106 (by omega)
                | exact absurd hb112 (by omega)
                | exact ⟨Or.inl ⟨by rw [eT], by rw [eT], zclr_x hk g2⟩, g4, rfl⟩
                | fail
          · skip
            have hD : zdg (tx a) = 0 := (by rw [hk]; rfl)
            exact absurd hj (by omega)
    · skip
      try dsimp only [zov, Option.toList, List.cons_append, List.nil_append]
      first | refine z_if_neN (pc := 17) (tgt := 25) (by with_reducible rfl) dX10_readsClause_17 (by decide) (by omega) (fun hb17 => absurd hb17 (by decide)) (fun hb17 => ?_) | refine z_if_ne (pc := 17) (tgt := 25) dX10_readsClause_17 (by decide) (fun hb17 => absurd hb17 (by decide)) (fun hb17 => ?_)
      · skip
        refine z_bipush (pc := 20) (v := -10) dX10_readsClause_20 (by decide) ?_
        refine z_iload_n (pc := 22) dX10_readsClause_22 rfl rfl ?_
        first | refine z_isubN (pc := 23) (by with_reducible rfl) (by with_reducible rfl) dX10_readsClause_23 (by omega) ?_ | refine z_isub (pc := 23) dX10_readsClause_23 ?_
        refine z_iret (pc := 24) dX10_readsClause_24 rfl ?_
        first
          | (have eT := zce_0 (len := len) (a := a) (tx := tx) (by omega)
             exact ⟨Or.inr ⟨by rw [eT], by rw [eT]⟩, zfc4_r _ _, rfl⟩)
          | (have eT := zce_o ha hkd
             exact ⟨Or.inr ⟨by rw [eT], by rw [eT]⟩, zfc4_r _ _, rfl⟩)
          | fail
