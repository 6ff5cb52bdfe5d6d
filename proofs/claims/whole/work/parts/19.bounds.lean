/-! ===== whole numbers: bounds ===== -/
def kR (lay : List zL) (r : Nat) : Prop := lay[r]? = some (.inl (4, [r + 3, r + 4, r + 5, r + 6, r + 7, r + 8, r + 9, 0, 0])) ∧ (lay[r + 1]? = some (.inr (.inl 9)) ∧ lay[r + 2]? = some (.inr (.inl 9)) ∧ lay[r + 3]? = some (.inr (.inl 9))) ∧ (lay[r + 4]? = some (.inr (.inl 7)) ∧ lay[r + 5]? = some (.inr (.inl 7))) ∧ lay[r + 6]? = some (.inl (0, [1, 1])) ∧ lay[r + 7]? = some (.inl (0, [1, 1]))
def zdn (p : Nat × Nat) : Nat := p.1 / p.2
def zhi (p : Nat × Nat) : Nat := p.1 / p.2 + (if p.1 / p.2 * p.2 < p.1 then 1 else 0)
def zttl (n m : Nat → Nat) : Nat → Nat → Nat × Nat → Option (Nat × Nat)
  | 0, _, q => some q
  | f + 1, i, q => match zsm n m 0 i with
    | none => none
    | some p => if zok (zred (q.1 * p.2 + p.1 * q.2) (q.2 * p.2)) = true then zttl n m f (i + 1) (zred (q.1 * p.2 + p.1 * q.2) (q.2 * p.2)) else none
def zcok (n m : Nat → Nat) : Nat → Nat → Bool
  | 0, _ => true
  | f + 1, j => (zsm n m 1 j).isSome && zcok n m f (j + 1)
def zpl (n m : Nat → Nat) (l : Nat) : Nat × Nat := (if l < 3 then zsm n m 0 l else if l < 6 then zsm n m 1 (l - 3) else zttl n m (n 0) 0 (0, 1)).getD (0, 1)
def zfnd (n m : Nat → Nat) : Prop := zttl n m (n 0) 0 (0, 1) ≠ none ∧ zcok n m (n 1) 0 = true
/-- the bounds that are put, l lines of those from o on -/
def zbds (I : zI) (r : Nat) (n m : Nat → Nat) (o e : Nat) : Prop := ∀ l, o ≤ l → l < e → I (r + 4) l = nI (zdn (zpl n m l)) ∧ I (r + 5) l = nI (zhi (zpl n m l))
theorem zttl_bd {n m : Nat → Nat} (hm : bT m) : ∀ (f i : Nat) (q q2 : Nat × Nat), zbd q → zttl n m f i q = some q2 → zbd q2
  | 0, _, q, q2, h, e => by
    cases e
    exact h
  | f + 1, i, q, q2, h, e => by
    simp only [zttl] at e
    split at e
    · cases e
    · rename_i p hp
      split at e
      · rename_i h2
        exact zttl_bd hm f (i + 1) _ q2 (zok_bd (Nat.mul_pos h.2.1 (zsm_bd hm hp).2.1) h2) e
      · cases e
theorem zhi_le {p : Nat × Nat} (h : zbd p) : zdn p ≤ 999999 ∧ zhi p ≤ 1000000 := by
  have h1 : p.1 / p.2 ≤ p.1 := Nat.div_le_self _ _
  have h2 := h.1
  unfold zdn zhi
  split <;> omega
theorem zhi_0 {a b : Nat} (h : a ≤ a / b * b) : a / b + 0 = zhi (a, b) := by
  show _ = a / b + (if a / b * b < a then 1 else 0)
  rw [if_neg (by omega)]
theorem zhi_1 {a b : Nat} (h : a / b * b < a) : a / b + 1 = zhi (a, b) := by
  show _ = a / b + (if a / b * b < a then 1 else 0)
  rw [if_pos h]
theorem zdn_mul (p : Nat × Nat) : p.1 / p.2 * p.2 ≤ p.1 := Nat.div_mul_le_self _ _
set_option maxHeartbeats 2000000 in
set_option maxRecDepth 20000 in
theorem c_X4_wholesOf {lay : List zL} {I : zI} {J : zJ} {a b : Nat} (ha : a < 9223372036854775808) (hb : b < 9223372036854775808) (h0 : 0 < b) : zMet lay MX4_wholesOf 0 [.long (lN a), .long (lN b)] I J (fun r I' J' => r = .int (nI (a / b)) ∧ I = I' ∧ J = J') := by
  refine zMet_of (t := MX4_wholesOf) (ls := [.long (lN a), .null, .long (lN b), .null]) (by decide +kernel) (Nat.le_of_ble_eq_true rfl) rfl ?_
  refine z_lload_n (pc := 0) dX4_wholesOf_0 rfl rfl ?_
  refine z_lconst (pc := 1) (v := lN 0) dX4_wholesOf_1 rfl ?_
  first | refine z_lc_leN (pc := 2) (tgt := 13) (by with_reducible rfl) (by with_reducible rfl) dX4_wholesOf_2 rfl dX4_wholesOf_3 (by decide) (by omega) (by omega) (fun hb2 => absurd hb2 (by omega)) (fun hb2 => ?_) | refine z_lc_le (pc := 2) (tgt := 13) dX4_wholesOf_2 rfl dX4_wholesOf_3 (by decide) (fun hb2 => absurd hb2 (by omega)) (fun hb2 => ?_)
  · skip
    refine z_lload_n (pc := 6) dX4_wholesOf_6 rfl rfl ?_
    refine z_lload_n (pc := 7) dX4_wholesOf_7 rfl rfl ?_
    refine z_ldivN (pc := 8) (by with_reducible rfl) (by with_reducible rfl) dX4_wholesOf_8 (by omega) (by omega) (by omega) ?_
    first | refine z_l2iN (pc := 9) (by with_reducible rfl) dX4_wholesOf_9 ?_ | refine z_l2i (pc := 9) dX4_wholesOf_9 rfl ?_
    refine z_goto (pc := 10) (tgt := 14) dX4_wholesOf_10 (by decide) ?_
    refine z_iret (pc := 14) dX4_wholesOf_14 rfl ?_
    exact ⟨rfl, rfl, rfl⟩
set_option maxHeartbeats 2000000 in
set_option maxRecDepth 20000 in
theorem c_X4_boundLine {lay : List zL} {I : zI} {J : zJ} {r0 f l : Nat} {p : Nat × Nat} (hR : kR lay r0) (hf : lay[f]? = some (.inl (0, [1, 1]))) (hf0 : J f 0 = lN p.1) (hf1 : J f 1 = lN p.2) (hp : zbd p) (hl : l < 7) : zMet lay MX4_boundLine 1 [.ref r0, .int (nI l), .ref f] I J (fun r I' J' => r = .null ∧ I' = zup (zup I (r0 + 4) l (nI (zdn p))) (r0 + 5) l (nI (zhi p)) ∧ J = J') := by
  refine zMet_of (t := MX4_boundLine) (ls := [.ref r0, .int (nI l), .ref f]) (by decide +kernel) (Nat.le_of_ble_eq_true rfl) rfl ?_
  obtain ⟨q0, ⟨q1, q2, q3⟩, ⟨q4, q5⟩, q6, q7⟩ := hR
  have hb1 := hp.1
  have hb2 := hp.2.1
  have hb3 := hp.2.2
  have hd := Nat.div_le_self p.1 p.2
  have hm := zdn_mul p
  refine z_aload_n (pc := 0) dX4_boundLine_0 rfl rfl ?_
  refine z_getR (pc := 1) dX4_boundLine_1 f_RX4_21 (by assumption) rfl ?_
  refine z_iload_n (pc := 4) dX4_boundLine_4 rfl rfl ?_
  refine z_aload_n (pc := 5) dX4_boundLine_5 rfl rfl ?_
  refine z_getJv (pc := 6) dX4_boundLine_6 f_RX4_78 (by assumption) rfl (by first | assumption | exact zup_s _ _ _ _ | rfl) ?_
  refine z_aload_n (pc := 9) dX4_boundLine_9 rfl rfl ?_
  refine z_getJv (pc := 10) dX4_boundLine_10 f_RX4_82 (by assumption) rfl (by first | assumption | exact zup_s _ _ _ _ | rfl) ?_
  refine z_callS (pc := 13) (c_X4_wholesOf (by omega) (by omega) (by omega)) dX4_boundLine_13 l_RX4_97 m_MX4_wholesOf s_MX4_wholesOf rfl (by omega) rfl (Nat.le_of_ble_eq_true rfl) ?_
  rintro _ _ _ (⟨rfl, rfl, rfl⟩)
  try dsimp only [zov, Option.toList, List.cons_append, List.nil_append]
  refine z_iastore (pc := 16) dX4_boundLine_16 (by assumption) (by with_reducible rfl) (by omega) (by decide) ?_
  refine z_aload_n (pc := 17) dX4_boundLine_17 rfl rfl ?_
  refine z_getR (pc := 18) dX4_boundLine_18 f_RX4_24 (by assumption) rfl ?_
  refine z_iload_n (pc := 21) dX4_boundLine_21 rfl rfl ?_
  refine z_aload_n (pc := 22) dX4_boundLine_22 rfl rfl ?_
  refine z_getR (pc := 23) dX4_boundLine_23 f_RX4_21 (by assumption) rfl ?_
  refine z_iload_n (pc := 26) dX4_boundLine_26 rfl rfl ?_
  refine z_ialoadv (pc := 27) dX4_boundLine_27 (by assumption) (by with_reducible rfl) (by omega) (by decide) (by first | assumption | exact zup_s _ _ _ _ | rfl) ?_
  refine z_aload_n (pc := 28) dX4_boundLine_28 rfl rfl ?_
  refine z_getR (pc := 29) dX4_boundLine_29 f_RX4_21 (by assumption) rfl ?_
  refine z_iload_n (pc := 32) dX4_boundLine_32 rfl rfl ?_
  refine z_ialoadv (pc := 33) dX4_boundLine_33 (by assumption) (by with_reducible rfl) (by omega) (by decide) (by first | assumption | exact zup_s _ _ _ _ | rfl) ?_
  first | refine z_i2lN (pc := 34) (by with_reducible rfl) dX4_boundLine_34 (by omega) ?_ | refine z_i2l (pc := 34) dX4_boundLine_34 rfl ?_
  refine z_aload_n (pc := 35) dX4_boundLine_35 rfl rfl ?_
  refine z_getJv (pc := 36) dX4_boundLine_36 f_RX4_82 (by assumption) rfl (by first | assumption | exact zup_s _ _ _ _ | rfl) ?_
  first | refine z_lmulN (pc := 39) (by with_reducible rfl) (by with_reducible rfl) dX4_boundLine_39 ?_ | refine z_lmul (pc := 39) dX4_boundLine_39 ?_
  refine z_aload_n (pc := 40) dX4_boundLine_40 rfl rfl ?_
  refine z_getJv (pc := 41) dX4_boundLine_41 f_RX4_78 (by assumption) rfl (by first | assumption | exact zup_s _ _ _ _ | rfl) ?_
  first | refine z_lc_geN (pc := 44) (tgt := 52) (by with_reducible rfl) (by with_reducible rfl) dX4_boundLine_44 rfl dX4_boundLine_45 (by decide) (by omega) (by omega) (fun hb44 => ?_) (fun hb44 => ?_) | refine z_lc_ge (pc := 44) (tgt := 52) dX4_boundLine_44 rfl dX4_boundLine_45 (by decide) (fun hb44 => ?_) (fun hb44 => ?_)
  · skip
    refine z_iconst (pc := 52) (v := nI 0) dX4_boundLine_52 (by decide) ?_
    refine z_callN (pc := 53) (c_X9_oneIf (by omega)) dX4_boundLine_53 zN_101 m_MX9_oneIf s_MX9_oneIf rfl (by omega) rfl (Nat.le_of_ble_eq_true rfl) ?_
    rintro _ _ _ (⟨rfl, rfl, rfl⟩)
    try dsimp only [zov, Option.toList, List.cons_append, List.nil_append]
    first | refine z_iaddN (pc := 56) (by with_reducible rfl) (by with_reducible rfl) dX4_boundLine_56 ?_ | refine z_iadd (pc := 56) dX4_boundLine_56 ?_
    refine z_iastore (pc := 57) dX4_boundLine_57 (by assumption) (by with_reducible rfl) (by omega) (by decide) ?_
    refine z_vret (pc := 58) dX4_boundLine_58 rfl ?_
    first | (refine ⟨rfl, ?_, rfl⟩; unfold zhi; rw [if_neg (by omega)]; rfl) | (refine ⟨rfl, ?_, rfl⟩; unfold zhi; rw [if_pos (by omega)]; rfl) | fail
  · skip
    refine z_iconst (pc := 48) (v := nI 1) dX4_boundLine_48 (by decide) ?_
    refine z_goto (pc := 49) (tgt := 53) dX4_boundLine_49 (by decide) ?_
    refine z_callN (pc := 53) (c_X9_oneIf (by omega)) dX4_boundLine_53 zN_101 m_MX9_oneIf s_MX9_oneIf rfl (by omega) rfl (Nat.le_of_ble_eq_true rfl) ?_
    rintro _ _ _ (⟨rfl, rfl, rfl⟩)
    try dsimp only [zov, Option.toList, List.cons_append, List.nil_append]
    first | refine z_iaddN (pc := 56) (by with_reducible rfl) (by with_reducible rfl) dX4_boundLine_56 ?_ | refine z_iadd (pc := 56) dX4_boundLine_56 ?_
    refine z_iastore (pc := 57) dX4_boundLine_57 (by assumption) (by with_reducible rfl) (by omega) (by decide) ?_
    refine z_vret (pc := 58) dX4_boundLine_58 rfl ?_
    first | (refine ⟨rfl, ?_, rfl⟩; unfold zhi; rw [if_neg (by omega)]; rfl) | (refine ⟨rfl, ?_, rfl⟩; unfold zhi; rw [if_pos (by omega)]; rfl) | fail
def zbcI (I0 : zI) (r : Nat) (m : Nat → Nat) (k : Nat) (I : zI) : Prop := (∀ y, y < k → I (r + 2) y = nI (zdn (m (34 + y), m (43 + y)))) ∧ (∀ y, y < k → I (r + 3) y = nI (zhi (m (34 + y), m (43 + y)))) ∧ ∀ x, x ≠ r + 2 → x ≠ r + 3 → I x = I0 x
theorem zbcI_step {I0 I : zI} {r k : Nat} {m : Nat → Nat} {v : Nat} (h : zbcI I0 r m k I) (hv : v = zhi (m (34 + k), m (43 + k))) : zbcI I0 r m (k + 1) (zup (zup I (r + 2) k (nI (m (34 + k) / m (43 + k)))) (r + 3) k (nI v)) := by
  obtain ⟨h1, h2, h3⟩ := h
  refine ⟨fun y hy => ?_, fun y hy => ?_, fun x p q => ?_⟩
  · rw [zup_o (by omega), zup_a]
    show (if y = k then _ else I (r + 2) y) = _
    by_cases q : y = k
    · subst q; rw [if_pos rfl]; rfl
    · rw [if_neg q]; exact h1 y (by omega)
  · rw [zup_a]
    show (if y = k then _ else (zup I (r + 2) k (nI (m (34 + k) / m (43 + k)))) (r + 3) y) = _
    by_cases q : y = k
    · subst q; rw [if_pos rfl, hv]
    · rw [if_neg q, zup_o (by omega)]; exact h2 y (by omega)
  · rw [zup_o (by omega), zup_o (by omega)]; exact h3 x p q
set_option maxHeartbeats 2000000 in
set_option maxRecDepth 20000 in
theorem l_X4_boundCells {lay : List zL} {Q : Value → zI → zJ → Prop} {J : zJ} {d r t : Nat} {m1 : Nat → Nat} {I0 : zI} (hR : kR lay r) (hT : kT lay t) (hJ0 : ∀ k, k < 9 → J (t + 1) k = lN (m1 (34 + k))) (hJ1 : ∀ k, k < 9 → J (t + 2) k = lN (m1 (43 + k))) (hb : bT m1) : ∀ (m k : Nat) (I : zI), k + m = 9 → zbcI I0 r m1 k I → (∀ I', zbcI I0 r m1 9 I' → Q .null I' J) → Z lay MX4_boundCells (d + 1) 2 [.ref r, .ref t, .int (nI k)] [] I J Q := by
  have hR' := hR
  obtain ⟨r0, ⟨r1, r2, r3⟩, ⟨r4, r5⟩, r6, r7⟩ := hR
  have hT' := hT
  obtain ⟨t1, t2, t3, t4, t5⟩ := hT
  intro m
  induction m with
  | zero =>
    intro k I hk h hq
    obtain rfl : k = 9 := (by omega)
    refine z_iload_n (pc := 2) dX4_boundCells_2 rfl rfl ?_
    refine z_bipush (pc := 3) (v := nI 9) dX4_boundCells_3 (by decide) ?_
    first | refine z_icmp_geN (pc := 5) (tgt := 80) (by with_reducible rfl) (by with_reducible rfl) dX4_boundCells_5 (by decide) (by omega) (by omega) (fun hb5 => ?_) (fun hb5 => absurd hb5 (by omega)) | refine z_icmp_ge (pc := 5) (tgt := 80) dX4_boundCells_5 (by decide) (fun hb5 => ?_) (fun hb5 => absurd hb5 (by omega))
    · skip
      refine z_vret (pc := 80) dX4_boundCells_80 rfl ?_
      exact hq _ h
  | succ m ih =>
    intro k I hk h hq
    have hbk := hb k (by omega)
    have hd := Nat.div_le_self (m1 (34 + k)) (m1 (43 + k))
    have hm : m1 (34 + k) / m1 (43 + k) * m1 (43 + k) ≤ m1 (34 + k) := Nat.div_mul_le_self _ _
    refine z_iload_n (pc := 2) dX4_boundCells_2 rfl rfl ?_
    refine z_bipush (pc := 3) (v := nI 9) dX4_boundCells_3 (by decide) ?_
    first | refine z_icmp_geN (pc := 5) (tgt := 80) (by with_reducible rfl) (by with_reducible rfl) dX4_boundCells_5 (by decide) (by omega) (by omega) (fun hb5 => absurd hb5 (by omega)) (fun hb5 => ?_) | refine z_icmp_ge (pc := 5) (tgt := 80) dX4_boundCells_5 (by decide) (fun hb5 => absurd hb5 (by omega)) (fun hb5 => ?_)
    · skip
      refine z_aload_n (pc := 8) dX4_boundCells_8 rfl rfl ?_
      refine z_getR (pc := 9) dX4_boundCells_9 f_RX4_15 (by assumption) rfl ?_
      refine z_iload_n (pc := 12) dX4_boundCells_12 rfl rfl ?_
      refine z_aload_n (pc := 13) dX4_boundCells_13 rfl rfl ?_
      refine z_getR (pc := 14) dX4_boundCells_14 f_RX4_92 (by assumption) rfl ?_
      refine z_iload_n (pc := 17) dX4_boundCells_17 rfl rfl ?_
      refine z_laloadv (pc := 18) dX4_boundCells_18 (by assumption) (by with_reducible rfl) (by omega) (by decide) (by first | assumption | exact hJ0 _ (by omega) | exact hJ1 _ (by omega) | exact zup_s _ _ _ _ | rfl) ?_
      refine z_aload_n (pc := 19) dX4_boundCells_19 rfl rfl ?_
      refine z_getR (pc := 20) dX4_boundCells_20 f_RX4_95 (by assumption) rfl ?_
      refine z_iload_n (pc := 23) dX4_boundCells_23 rfl rfl ?_
      refine z_laloadv (pc := 24) dX4_boundCells_24 (by assumption) (by with_reducible rfl) (by omega) (by decide) (by first | assumption | exact hJ0 _ (by omega) | exact hJ1 _ (by omega) | exact zup_s _ _ _ _ | rfl) ?_
      refine z_callS (pc := 25) (c_X4_wholesOf (by omega) (by omega) (by omega)) dX4_boundCells_25 l_RX4_97 m_MX4_wholesOf s_MX4_wholesOf rfl (by omega) rfl (Nat.le_of_ble_eq_true rfl) ?_
      rintro _ _ _ (⟨rfl, rfl, rfl⟩)
      try dsimp only [zov, Option.toList, List.cons_append, List.nil_append]
      refine z_iastore (pc := 28) dX4_boundCells_28 (by assumption) (by with_reducible rfl) (by omega) (by decide) ?_
      refine z_aload_n (pc := 29) dX4_boundCells_29 rfl rfl ?_
      refine z_getR (pc := 30) dX4_boundCells_30 f_RX4_18 (by assumption) rfl ?_
      refine z_iload_n (pc := 33) dX4_boundCells_33 rfl rfl ?_
      refine z_aload_n (pc := 34) dX4_boundCells_34 rfl rfl ?_
      refine z_getR (pc := 35) dX4_boundCells_35 f_RX4_15 (by assumption) rfl ?_
      refine z_iload_n (pc := 38) dX4_boundCells_38 rfl rfl ?_
      refine z_ialoadv (pc := 39) dX4_boundCells_39 (by assumption) (by with_reducible rfl) (by omega) (by decide) (by first | assumption | exact hJ0 _ (by omega) | exact hJ1 _ (by omega) | exact zup_s _ _ _ _ | rfl) ?_
      refine z_aload_n (pc := 40) dX4_boundCells_40 rfl rfl ?_
      refine z_getR (pc := 41) dX4_boundCells_41 f_RX4_15 (by assumption) rfl ?_
      refine z_iload_n (pc := 44) dX4_boundCells_44 rfl rfl ?_
      refine z_ialoadv (pc := 45) dX4_boundCells_45 (by assumption) (by with_reducible rfl) (by omega) (by decide) (by first | assumption | exact hJ0 _ (by omega) | exact hJ1 _ (by omega) | exact zup_s _ _ _ _ | rfl) ?_
      first | refine z_i2lN (pc := 46) (by with_reducible rfl) dX4_boundCells_46 (by omega) ?_ | refine z_i2l (pc := 46) dX4_boundCells_46 rfl ?_
      refine z_aload_n (pc := 47) dX4_boundCells_47 rfl rfl ?_
      refine z_getR (pc := 48) dX4_boundCells_48 f_RX4_95 (by assumption) rfl ?_
      refine z_iload_n (pc := 51) dX4_boundCells_51 rfl rfl ?_
      refine z_laloadv (pc := 52) dX4_boundCells_52 (by assumption) (by with_reducible rfl) (by omega) (by decide) (by first | assumption | exact hJ0 _ (by omega) | exact hJ1 _ (by omega) | exact zup_s _ _ _ _ | rfl) ?_
      first | refine z_lmulN (pc := 53) (by with_reducible rfl) (by with_reducible rfl) dX4_boundCells_53 ?_ | refine z_lmul (pc := 53) dX4_boundCells_53 ?_
      refine z_aload_n (pc := 54) dX4_boundCells_54 rfl rfl ?_
      refine z_getR (pc := 55) dX4_boundCells_55 f_RX4_92 (by assumption) rfl ?_
      refine z_iload_n (pc := 58) dX4_boundCells_58 rfl rfl ?_
      refine z_laloadv (pc := 59) dX4_boundCells_59 (by assumption) (by with_reducible rfl) (by omega) (by decide) (by first | assumption | exact hJ0 _ (by omega) | exact hJ1 _ (by omega) | exact zup_s _ _ _ _ | rfl) ?_
      first | refine z_lc_geN (pc := 60) (tgt := 68) (by with_reducible rfl) (by with_reducible rfl) dX4_boundCells_60 rfl dX4_boundCells_61 (by decide) (by omega) (by omega) (fun hb60 => ?_) (fun hb60 => ?_) | refine z_lc_ge (pc := 60) (tgt := 68) dX4_boundCells_60 rfl dX4_boundCells_61 (by decide) (fun hb60 => ?_) (fun hb60 => ?_)
      · skip
        refine z_iconst (pc := 68) (v := nI 0) dX4_boundCells_68 (by decide) ?_
        refine z_callN (pc := 69) (c_X9_oneIf (by omega)) dX4_boundCells_69 zN_101 m_MX9_oneIf s_MX9_oneIf rfl (by omega) rfl (Nat.le_of_ble_eq_true rfl) ?_
        rintro _ _ _ (⟨rfl, rfl, rfl⟩)
        try dsimp only [zov, Option.toList, List.cons_append, List.nil_append]
        first | refine z_iaddN (pc := 72) (by with_reducible rfl) (by with_reducible rfl) dX4_boundCells_72 ?_ | refine z_iadd (pc := 72) dX4_boundCells_72 ?_
        refine z_iastore (pc := 73) dX4_boundCells_73 (by assumption) (by with_reducible rfl) (by omega) (by decide) ?_
        first | refine z_iincN (pc := 74) (c := 1) dX4_boundCells_74 rfl (by with_reducible rfl) (by decide) (by decide) rfl ?_ | refine z_iinc (pc := 74) dX4_boundCells_74 rfl rfl (by decide) rfl ?_
        try dsimp only [zst1, zst2, zk]
        refine z_goto (pc := 77) (tgt := 2) dX4_boundCells_77 (by decide) ?_
        first
          | exact ih (k + 1) _ (by omega) (zbcI_step (v := m1 (34 + k) / m1 (43 + k) + 0) h (zhi_0 (by omega))) hq
          | exact ih (k + 1) _ (by omega) (zbcI_step (v := m1 (34 + k) / m1 (43 + k) + 1) h (zhi_1 (by omega))) hq
          | fail
      · skip
        refine z_iconst (pc := 64) (v := nI 1) dX4_boundCells_64 (by decide) ?_
        refine z_goto (pc := 65) (tgt := 69) dX4_boundCells_65 (by decide) ?_
        refine z_callN (pc := 69) (c_X9_oneIf (by omega)) dX4_boundCells_69 zN_101 m_MX9_oneIf s_MX9_oneIf rfl (by omega) rfl (Nat.le_of_ble_eq_true rfl) ?_
        rintro _ _ _ (⟨rfl, rfl, rfl⟩)
        try dsimp only [zov, Option.toList, List.cons_append, List.nil_append]
        first | refine z_iaddN (pc := 72) (by with_reducible rfl) (by with_reducible rfl) dX4_boundCells_72 ?_ | refine z_iadd (pc := 72) dX4_boundCells_72 ?_
        refine z_iastore (pc := 73) dX4_boundCells_73 (by assumption) (by with_reducible rfl) (by omega) (by decide) ?_
        first | refine z_iincN (pc := 74) (c := 1) dX4_boundCells_74 rfl (by with_reducible rfl) (by decide) (by decide) rfl ?_ | refine z_iinc (pc := 74) dX4_boundCells_74 rfl rfl (by decide) rfl ?_
        try dsimp only [zst1, zst2, zk]
        refine z_goto (pc := 77) (tgt := 2) dX4_boundCells_77 (by decide) ?_
        first
          | exact ih (k + 1) _ (by omega) (zbcI_step (v := m1 (34 + k) / m1 (43 + k) + 0) h (zhi_0 (by omega))) hq
          | exact ih (k + 1) _ (by omega) (zbcI_step (v := m1 (34 + k) / m1 (43 + k) + 1) h (zhi_1 (by omega))) hq
          | fail
set_option maxHeartbeats 2000000 in
set_option maxRecDepth 20000 in
theorem c_X4_boundCells {lay : List zL} {I : zI} {J : zJ} {r0 t : Nat} {m1 : Nat → Nat} (hR : kR lay r0) (hT : kT lay t) (hJ0 : ∀ k, k < 9 → J (t + 1) k = lN (m1 (34 + k))) (hJ1 : ∀ k, k < 9 → J (t + 2) k = lN (m1 (43 + k))) (hb : bT m1) : zMet lay MX4_boundCells 1 [.ref r0, .ref t] I J (fun r I' J' => r = .null ∧ zbcI I r0 m1 9 I' ∧ J = J') := by
  refine zMet_of (t := MX4_boundCells) (ls := [.ref r0, .ref t, .null]) (by decide +kernel) (Nat.le_of_ble_eq_true rfl) rfl ?_
  refine z_iconst (pc := 0) (v := nI 0) dX4_boundCells_0 (by decide) ?_
  refine z_istore_n (pc := 1) dX4_boundCells_1 rfl (by decide) rfl ?_
  try dsimp only [zst1, zst2, zk]
  exact l_X4_boundCells hR hT hJ0 hJ1 hb 9 0 _ rfl ⟨fun y hy => by omega, fun y hy => by omega, fun _ _ _ => rfl⟩ (fun I' h => ⟨rfl, h, rfl⟩)
set_option maxHeartbeats 2000000 in
set_option maxRecDepth 20000 in
theorem l_X4_rows {lay : List zL} {Q : Value → zI → zJ → Prop} {d s t r : Nat} {n m1 : Nat → Nat} {I0 : zI} {J0 : zJ} (hS : kS lay s) (hB : bS n) (hT : kT lay t) (hb : bT m1) (hR : kR lay r) (hrs : r + 7 < s ∨ s + 3 < r) (hrt : r + 7 < t ∨ t + 4 < r) : ∀ (f i : Nat) (q9 : Nat × Nat) (I : zI) (J : zJ), i + f = n 0 → vS I s n → vT I J t m1 → I r 7 = nI (n 0) → J (r + 7) 0 = lN q9.1 → J (r + 7) 1 = lN q9.2 → zbd q9 → zbds I r n m1 0 i → (∀ x, x ≠ r + 4 → x ≠ r + 5 → I x = I0 x) → (∀ x, x ≠ r + 6 → x ≠ r + 7 → J x = J0 x) → (∀ q2 I' J', zttl n m1 f i q9 = some q2 → vS I' s n → vT I' J' t m1 → J' (r + 7) 0 = lN q2.1 → J' (r + 7) 1 = lN q2.2 → zbd q2 → zbds I' r n m1 0 (n 0) → (∀ x, x ≠ r + 4 → x ≠ r + 5 → I' x = I0 x) → (∀ x, x ≠ r + 6 → x ≠ r + 7 → J' x = J0 x) → Z lay MX4_areSumsBounded (d + 3) 87 [.ref r, .ref s, .ref t, .int (nI (n 0))] [] I' J' Q) → (zttl n m1 f i q9 = none → ∀ I' J', (∀ x, x ≠ r + 4 → x ≠ r + 5 → I' x = I0 x) → (∀ x, x ≠ r + 6 → x ≠ r + 7 → J' x = J0 x) → Q (.int (nI 0)) I' J') → Z lay MX4_areSumsBounded (d + 3) 11 [.ref r, .ref s, .ref t, .int (nI i)] [] I J Q := by
  have hR' := hR
  obtain ⟨r0, ⟨r1, r2, r3⟩, ⟨r4, r5⟩, r6, r7⟩ := hR
  have hT' := hT
  obtain ⟨t1, t2, t3, t4, t5⟩ := hT
  obtain ⟨b1, b2, b3, b4, b5, b6, b7, b8⟩ := id hB
  intro f
  induction f with
  | zero =>
    intro i q9 I J hi hV hU h7 hj0 hj1 hp9 hbd hfi hfj hk hn
    obtain rfl : i = n 0 := (by omega)
    refine z_iload_n (pc := 11) dX4_areSumsBounded_11 rfl rfl ?_
    refine z_aload_n (pc := 12) dX4_areSumsBounded_12 rfl rfl ?_
    refine z_getIv (pc := 13) dX4_areSumsBounded_13 f_RX4_43 (by assumption) rfl (by first | assumption | rfl) ?_
    first | refine z_icmp_geN (pc := 16) (tgt := 87) (by with_reducible rfl) (by with_reducible rfl) dX4_areSumsBounded_16 (by decide) (by omega) (by omega) (fun hb16 => ?_) (fun hb16 => absurd hb16 (by omega)) | refine z_icmp_ge (pc := 16) (tgt := 87) dX4_areSumsBounded_16 (by decide) (fun hb16 => ?_) (fun hb16 => absurd hb16 (by omega))
    · skip
      exact hk q9 I J rfl hV hU hj0 hj1 hp9 hbd hfi hfj
  | succ f ih =>
    intro i q9 I J hi hV hU h7 hj0 hj1 hp9 hbd hfi hfj hk hn
    refine z_iload_n (pc := 11) dX4_areSumsBounded_11 rfl rfl ?_
    refine z_aload_n (pc := 12) dX4_areSumsBounded_12 rfl rfl ?_
    refine z_getIv (pc := 13) dX4_areSumsBounded_13 f_RX4_43 (by assumption) rfl (by first | assumption | exact e0 | exact e1 | rfl) ?_
    first | refine z_icmp_geN (pc := 16) (tgt := 87) (by with_reducible rfl) (by with_reducible rfl) dX4_areSumsBounded_16 (by decide) (by omega) (by omega) (fun hb16 => absurd hb16 (by omega)) (fun hb16 => ?_) | refine z_icmp_ge (pc := 16) (tgt := 87) dX4_areSumsBounded_16 (by decide) (fun hb16 => absurd hb16 (by omega)) (fun hb16 => ?_)
    · skip
      refine z_aload_n (pc := 19) dX4_areSumsBounded_19 rfl rfl ?_
      refine z_aload_n (pc := 20) dX4_areSumsBounded_20 rfl rfl ?_
      refine z_iconst (pc := 21) (v := nI 0) dX4_areSumsBounded_21 (by decide) ?_
      refine z_iload_n (pc := 22) dX4_areSumsBounded_22 rfl rfl ?_
      refine z_aload_n (pc := 23) dX4_areSumsBounded_23 rfl rfl ?_
      refine z_getR (pc := 24) dX4_areSumsBounded_24 f_RX4_30 (by assumption) rfl ?_
      refine z_callV (pc := 27) (c_X7_isSummed (w := 0) (by assumption) (by assumption) (by assumption) (by assumption) hU hb (by assumption) (by omega) (by omega) (by omega) (by omega)) dX4_areSumsBounded_27 l_RX4_64 m_MX7_isSummed n_MX7_isSummed e_MX7_isSummed rfl (by omega) (by assumption) rfl rfl (Nat.le_of_ble_eq_true rfl) ?_
      rintro _ _ _ ⟨⟨rfl, q, eq1, e0, e1⟩ | ⟨rfl, eq1⟩, rfl, hfr1⟩
      · have hbq := zsm_bd hb eq1
        try dsimp only [zov, Option.toList, List.cons_append, List.nil_append]
        first | refine z_if_neN (pc := 30) (tgt := 35) (by with_reducible rfl) dX4_areSumsBounded_30 (by decide) (by omega) (fun hb30 => ?_) (fun hb30 => absurd hb30 (by decide)) | refine z_if_ne (pc := 30) (tgt := 35) dX4_areSumsBounded_30 (by decide) (fun hb30 => ?_) (fun hb30 => absurd hb30 (by decide))
        · skip
          refine z_aload_n (pc := 35) dX4_areSumsBounded_35 rfl rfl ?_
          refine z_iconst (pc := 36) (v := nI 0) dX4_areSumsBounded_36 (by decide) ?_
          refine z_iload_n (pc := 37) dX4_areSumsBounded_37 rfl rfl ?_
          refine z_callN (pc := 38) c_X9_place dX4_areSumsBounded_38 zN_70 m_MX9_place s_MX9_place rfl (by omega) rfl (Nat.le_of_ble_eq_true rfl) ?_
          rintro _ _ _ (⟨rfl, rfl, rfl⟩)
          try dsimp only [zov, Option.toList, List.cons_append, List.nil_append]
          refine z_aload_n (pc := 41) dX4_areSumsBounded_41 rfl rfl ?_
          refine z_getR (pc := 42) dX4_areSumsBounded_42 f_RX4_30 (by assumption) rfl ?_
          refine z_callV (pc := 45) (c_X4_boundLine (p := q) (by assumption) (by assumption) e0 e1 hbq (by omega)) dX4_areSumsBounded_45 l_RX4_74 m_MX4_boundLine n_MX4_boundLine e_MX4_boundLine rfl (by omega) (by assumption) rfl rfl (Nat.le_of_ble_eq_true rfl) ?_
          rintro _ _ _ (⟨rfl, rfl, rfl⟩)
          try dsimp only [zov, Option.toList, List.cons_append, List.nil_append]
          refine z_aload_n (pc := 48) dX4_areSumsBounded_48 rfl rfl ?_
          refine z_getR (pc := 49) dX4_areSumsBounded_49 f_RX4_34 (by assumption) rfl ?_
          refine z_aload_n (pc := 52) dX4_areSumsBounded_52 rfl rfl ?_
          refine z_getR (pc := 53) dX4_areSumsBounded_53 f_RX4_30 (by assumption) rfl ?_
          refine z_getJv (pc := 56) dX4_areSumsBounded_56 f_RX4_78 (by assumption) rfl (by first | assumption | exact e0 | exact e1 | rfl) ?_
          refine z_aload_n (pc := 59) dX4_areSumsBounded_59 rfl rfl ?_
          refine z_getR (pc := 60) dX4_areSumsBounded_60 f_RX4_30 (by assumption) rfl ?_
          refine z_getJv (pc := 63) dX4_areSumsBounded_63 f_RX4_82 (by assumption) rfl (by first | assumption | exact e0 | exact e1 | rfl) ?_
          have hj0b : _ = lN q9.1 := (congrFun (hfr1 (r + 7) (by omega)) 0).trans hj0
          have hj1b : _ = lN q9.2 := (congrFun (hfr1 (r + 7) (by omega)) 1).trans hj1
          have w1 := zmul2 hp9.1 hbq.2.2
          have w2 := zmul2 hbq.1 hp9.2.2
          have w3 := zmul2 hp9.2.2 hbq.2.2
          have w4 : 0 < (q9.2 * q.2) := Nat.mul_pos hp9.2.1 hbq.2.1
          have hd1 : (q9.1 * q.2 + q.1 * q9.2) / Nat.gcd (q9.2 * q.2) (q9.1 * q.2 + q.1 * q9.2) ≤ (q9.1 * q.2 + q.1 * q9.2) := Nat.div_le_self _ _
          have hd2 : (q9.2 * q.2) / Nat.gcd (q9.2 * q.2) (q9.1 * q.2 + q.1 * q9.2) ≤ (q9.2 * q.2) := Nat.div_le_self _ _
          refine z_callV (pc := 66) (c_X0_add (x := q9.1) (y := q9.2) (by assumption) hj0b hj1b (by omega) (by omega) (by omega)) dX4_areSumsBounded_66 l_RX4_85 m_MX0_add n_MX0_add e_MX0_add rfl (by omega) (by assumption) rfl rfl (Nat.le_of_ble_eq_true rfl) ?_
          rintro _ _ _ (⟨rfl, rfl, rfl⟩)
          try dsimp only [zov, Option.toList, List.cons_append, List.nil_append]
          refine z_aload_n (pc := 69) dX4_areSumsBounded_69 rfl rfl ?_
          refine z_getR (pc := 70) dX4_areSumsBounded_70 f_RX4_34 (by assumption) rfl ?_
          refine z_callV (pc := 73) (c_X0_isFine (by assumption) zf0 zf1 (by omega) (by omega)) dX4_areSumsBounded_73 l_RX4_88 m_MX0_isFine n_MX0_isFine e_MX0_isFine rfl (by omega) (by assumption) rfl rfl (Nat.le_of_ble_eq_true rfl) ?_
          rintro _ _ _ ⟨⟨rfl, hF⟩ | ⟨rfl, hF⟩, rfl, rfl⟩
          · have hF2 : zok (zred (q9.1 * q.2 + q.1 * q9.2) (q9.2 * q.2)) = false := decide_eq_false hF
            try dsimp only [zov, Option.toList, List.cons_append, List.nil_append]
            first | refine z_if_eqN (pc := 76) (tgt := 81) (by with_reducible rfl) dX4_areSumsBounded_76 (by decide) (by omega) (fun hb76 => absurd hb76 (by decide)) (fun hb76 => ?_) | refine z_if_eq (pc := 76) (tgt := 81) dX4_areSumsBounded_76 (by decide) (fun hb76 => absurd hb76 (by decide)) (fun hb76 => ?_)
            · skip
              refine z_iconst (pc := 79) (v := nI 0) dX4_areSumsBounded_79 (by decide) ?_
              refine z_zret (pc := 80) dX4_areSumsBounded_80 rfl (by first | decide | assumption) ?_
              first
                | exact hn (by simp only [zttl, eq1]) _ _ hfi (fun x p1 p2 => (hfr1 x p1).trans (hfj x p1 p2))
                | exact hn (by simp only [zttl, eq1]; rw [hF2]; rfl) _ _ (fun x p1 p2 => by rw [zup_o p2, zup_o p1]; exact hfi x p1 p2) (fun x p1 p2 => by rw [zup_o p2, zup_o p2]; exact (hfr1 x p1).trans (hfj x p1 p2))
                | fail
          · have hF2 : zok (zred (q9.1 * q.2 + q.1 * q9.2) (q9.2 * q.2)) = true := decide_eq_true hF
            try dsimp only [zov, Option.toList, List.cons_append, List.nil_append]
            first | refine z_if_eqN (pc := 76) (tgt := 81) (by with_reducible rfl) dX4_areSumsBounded_76 (by decide) (by omega) (fun hb76 => ?_) (fun hb76 => absurd hb76 (by decide)) | refine z_if_eq (pc := 76) (tgt := 81) dX4_areSumsBounded_76 (by decide) (fun hb76 => ?_) (fun hb76 => absurd hb76 (by decide))
            · skip
              first | refine z_iincN (pc := 81) (c := 1) dX4_areSumsBounded_81 rfl (by with_reducible rfl) (by decide) (by decide) rfl ?_ | refine z_iinc (pc := 81) dX4_areSumsBounded_81 rfl rfl (by decide) rfl ?_
              try dsimp only [zst1, zst2, zk]
              refine z_goto (pc := 84) (tgt := 11) dX4_areSumsBounded_84 (by decide) ?_
              have ez : zpl n m1 (3 * 0 + i) = q := by unfold zpl; rw [if_pos (by omega), show 3 * 0 + i = i by omega, eq1]; rfl
              refine ih (i + 1) (zred (q9.1 * q.2 + q.1 * q9.2) (q9.2 * q.2)) _ _ (by omega) (vS_to hV ?_ ?_ ?_ ?_) (vT_to hU ?_ ?_ ?_) ?_ zf0 zf1 ⟨hF.1, zred_pos w4, hF.2⟩ ?_ ?_ ?_ (fun q2 I' J' e => hk q2 I' J' (by simp only [zttl, eq1]; rw [hF2]; exact e)) (fun e => hn (by simp only [zttl, eq1]; rw [hF2]; exact e))
              · rw [zup_o (by omega), zup_o (by omega)]
              · rw [zup_o (by omega), zup_o (by omega)]
              · rw [zup_o (by omega), zup_o (by omega)]
              · rw [zup_o (by omega), zup_o (by omega)]
              · rw [zup_o (by omega), zup_o (by omega)]
              · rw [zup_o (by omega), zup_o (by omega)]; exact hfr1 _ (by omega)
              · rw [zup_o (by omega), zup_o (by omega)]; exact hfr1 _ (by omega)
              · rw [zup_o (by omega), zup_o (by omega)]; exact h7
              · intro l h1 h2
                rw [zup_o (by omega), zup_a, zup_a]
                by_cases e : l = i
                · subst e
                  rw [show 3 * 0 + l = l by omega] at ez ⊢
                  show (if l = l then _ else _) = _ ∧ (if l = l then _ else _) = _
                  rw [if_pos rfl, if_pos rfl, ez]
                  exact ⟨rfl, rfl⟩
                · show (if l = 3 * 0 + i then _ else I (r + 4) l) = _ ∧ (if l = 3 * 0 + i then _ else zup I (r + 4) (3 * 0 + i) (nI (zdn q)) (r + 5) l) = _
                  rw [if_neg (by omega), if_neg (by omega), zup_o (by omega)]
                  exact hbd l h1 (by omega)
              · intro x p1 p2
                rw [zup_o p2, zup_o p1]; exact hfi x p1 p2
              · intro x p1 p2
                rw [zup_o p2, zup_o p2]; exact (hfr1 x p1).trans (hfj x p1 p2)
      · skip
        try dsimp only [zov, Option.toList, List.cons_append, List.nil_append]
        first | refine z_if_neN (pc := 30) (tgt := 35) (by with_reducible rfl) dX4_areSumsBounded_30 (by decide) (by omega) (fun hb30 => absurd hb30 (by decide)) (fun hb30 => ?_) | refine z_if_ne (pc := 30) (tgt := 35) dX4_areSumsBounded_30 (by decide) (fun hb30 => absurd hb30 (by decide)) (fun hb30 => ?_)
        · skip
          refine z_iconst (pc := 33) (v := nI 0) dX4_areSumsBounded_33 (by decide) ?_
          refine z_zret (pc := 34) dX4_areSumsBounded_34 rfl (by first | decide | assumption) ?_
          first
            | exact hn (by simp only [zttl, eq1]) _ _ hfi (fun x p1 p2 => (hfr1 x p1).trans (hfj x p1 p2))
            | exact hn (by simp only [zttl, eq1]; rw [hF2]; rfl) _ _ (fun x p1 p2 => by rw [zup_o p2, zup_o p1]; exact hfi x p1 p2) (fun x p1 p2 => by rw [zup_o p2, zup_o p2]; exact (hfr1 x p1).trans (hfj x p1 p2))
            | fail
