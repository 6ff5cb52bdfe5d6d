/-! ===== the table ===== -/
def kT (lay : List zL) (t : Nat) : Prop := lay[t]? = some (.inl (7, [t + 3, t + 4, 0, t + 5, t + 6])) ∧ lay[t + 1]? = some (.inr (.inr (.inl 9))) ∧ lay[t + 2]? = some (.inr (.inr (.inl 9))) ∧ lay[t + 3]? = some (.inl (0, [1, 1])) ∧ lay[t + 4]? = some (.inl (0, [1, 1]))
def vT (I : zI) (J : zJ) (t : Nat) (n : Nat → Nat) : Prop := (∀ k, k < 9 → J (t + 1) k = lN (n (34 + k))) ∧ (∀ k, k < 9 → J (t + 2) k = lN (n (43 + k))) ∧ I t 2 = nI (n 3)
def bT (n : Nat → Nat) : Prop := ∀ k, k < 9 → n (34 + k) ≤ 999999 ∧ 1 ≤ n (43 + k) ∧ n (43 + k) ≤ 999999
theorem vT_to {I I' : zI} {J J' : zJ} {t : Nat} {n : Nat → Nat} (h : vT I J t n) (h0 : I' t = I t) (h1 : J' (t + 1) = J (t + 1)) (h2 : J' (t + 2) = J (t + 2)) : vT I' J' t n := by
  unfold vT
  rw [h0, h1, h2]
  exact h
/-- the table is the counts -/
def ztk (n : Nat → Nat) : Nat → Nat := fun k => if k = 3 then 0 else if 34 ≤ k ∧ k < 43 then n (k - 27) else if 43 ≤ k ∧ k < 52 then 1 else n k
def zkJ (J0 : zJ) (n : Nat → Nat) (t m : Nat) (J : zJ) : Prop := (∀ y, y < m → J (t + 1) y = lN (n (7 + y))) ∧ (∀ y, y < m → J (t + 2) y = lN 1) ∧ ∀ x, x ≠ t + 1 → x ≠ t + 2 → J x = J0 x
theorem zkJ_step {J0 J : zJ} {n : Nat → Nat} {t k : Nat} (h : zkJ J0 n t k J) : zkJ J0 n t (k + 1) (zup (zup J (t + 1) k (lN (n (7 + k)))) (t + 2) k (lN 1)) := by
  obtain ⟨h1, h2, h3⟩ := h
  refine ⟨fun y hy => ?_, fun y hy => ?_, fun x p q => ?_⟩
  · rw [zup_o (by omega), zup_a]
    show (if y = k then _ else J (t + 1) y) = _
    by_cases q : y = k
    · subst q; rw [if_pos rfl]
    · rw [if_neg q]; exact h1 y (by omega)
  · rw [zup_a]
    show (if y = k then _ else zup J (t + 1) k (lN (n (7 + k))) (t + 2) y) = _
    by_cases q : y = k
    · subst q; rw [if_pos rfl]
    · rw [if_neg q, zup_o (by omega)]; exact h2 y (by omega)
  · rw [zup_o (by omega), zup_o (by omega)]; exact h3 x p q
set_option maxHeartbeats 2000000 in
set_option maxRecDepth 20000 in
theorem l_X7_takeCounts {lay : List zL} {Q : Value → zI → zJ → Prop} {I : zI} {d s t : Nat} {n : Nat → Nat} {J0 : zJ} (hS : kS lay s) (hV : vS I s n) (hB : bS n) (hT : kT lay t) : ∀ (m k : Nat) (J : zJ), k + m = 9 → zkJ J0 n t k J → (∀ J', zkJ J0 n t 9 J' → Q .null (zup I t 2 (nI 0)) J') → Z lay MX7_takeCounts d 2 [.ref t, .ref s, .int (nI k)] [] I J Q := by
  have hS' := hS
  have hV' := hV
  have hB' := hB
  obtain ⟨h1, h2, h3, h4⟩ := hS
  obtain ⟨v0, v1, v2, v3, v4, v5⟩ := hV
  obtain ⟨b1, b2, b3, b4, b5, b6, b7, b8⟩ := hB
  have hT' := hT
  obtain ⟨t1, t2, t3, t4, t5⟩ := hT
  intro m
  induction m with
  | zero =>
    intro k J hk h hq
    obtain rfl : k = 9 := (by omega)
    refine z_iload_n (pc := 2) dX7_takeCounts_2 rfl rfl ?_
    refine z_bipush (pc := 3) (v := nI 9) dX7_takeCounts_3 (by decide) ?_
    first | refine z_icmp_geN (pc := 5) (tgt := 34) (by with_reducible rfl) (by with_reducible rfl) dX7_takeCounts_5 (by decide) (by omega) (by omega) (fun hb5 => ?_) (fun hb5 => absurd hb5 (by omega)) | refine z_icmp_ge (pc := 5) (tgt := 34) dX7_takeCounts_5 (by decide) (fun hb5 => ?_) (fun hb5 => absurd hb5 (by omega))
    · skip
      refine z_aload_n (pc := 34) dX7_takeCounts_34 rfl rfl ?_
      refine z_iconst (pc := 35) (v := nI 0) dX7_takeCounts_35 (by decide) ?_
      refine z_putI (pc := 36) dX7_takeCounts_36 f_RX7_34 (by assumption) rfl ?_
      refine z_vret (pc := 39) dX7_takeCounts_39 rfl ?_
      exact hq _ h
  | succ m ih =>
    intro k J hk h hq
    have hc := b6 k (by omega)
    refine z_iload_n (pc := 2) dX7_takeCounts_2 rfl rfl ?_
    refine z_bipush (pc := 3) (v := nI 9) dX7_takeCounts_3 (by decide) ?_
    first | refine z_icmp_geN (pc := 5) (tgt := 34) (by with_reducible rfl) (by with_reducible rfl) dX7_takeCounts_5 (by decide) (by omega) (by omega) (fun hb5 => absurd hb5 (by omega)) (fun hb5 => ?_) | refine z_icmp_ge (pc := 5) (tgt := 34) dX7_takeCounts_5 (by decide) (fun hb5 => absurd hb5 (by omega)) (fun hb5 => ?_)
    · skip
      refine z_aload_n (pc := 8) dX7_takeCounts_8 rfl rfl ?_
      refine z_getR (pc := 9) dX7_takeCounts_9 f_RX7_9 (by assumption) rfl ?_
      refine z_iload_n (pc := 12) dX7_takeCounts_12 rfl rfl ?_
      refine z_aload_n (pc := 13) dX7_takeCounts_13 rfl rfl ?_
      refine z_getR (pc := 14) dX7_takeCounts_14 f_RX7_30 (by assumption) rfl ?_
      refine z_iload_n (pc := 17) dX7_takeCounts_17 rfl rfl ?_
      refine z_ialoadv (pc := 18) dX7_takeCounts_18 (by assumption) (by with_reducible rfl) (by omega) (by decide) (by first | assumption | exact v3 _ (by omega) | exact v4 _ (by omega) | exact v5 _ (by omega) | rfl) ?_
      first | refine z_i2lN (pc := 19) (by with_reducible rfl) dX7_takeCounts_19 (by omega) ?_ | refine z_i2l (pc := 19) dX7_takeCounts_19 rfl ?_
      refine z_lastore (pc := 20) dX7_takeCounts_20 (by assumption) (by with_reducible rfl) (by omega) (by decide) ?_
      refine z_aload_n (pc := 21) dX7_takeCounts_21 rfl rfl ?_
      refine z_getR (pc := 22) dX7_takeCounts_22 f_RX7_15 (by assumption) rfl ?_
      refine z_iload_n (pc := 25) dX7_takeCounts_25 rfl rfl ?_
      refine z_lconst (pc := 26) (v := lN 1) dX7_takeCounts_26 rfl ?_
      refine z_lastore (pc := 27) dX7_takeCounts_27 (by assumption) (by with_reducible rfl) (by omega) (by decide) ?_
      first | refine z_iincN (pc := 28) (c := 1) dX7_takeCounts_28 rfl (by with_reducible rfl) (by decide) (by decide) rfl ?_ | refine z_iinc (pc := 28) dX7_takeCounts_28 rfl rfl (by decide) rfl ?_
      try dsimp only [zst1, zst2, zk]
      refine z_goto (pc := 31) (tgt := 2) dX7_takeCounts_31 (by decide) ?_
      exact ih (k + 1) _ (by omega) (zkJ_step h) hq
set_option maxHeartbeats 2000000 in
set_option maxRecDepth 20000 in
theorem c_X7_takeCounts {lay : List zL} {I : zI} {J : zJ} {s t : Nat} {n : Nat → Nat} (hS : kS lay s) (hV : vS I s n) (hB : bS n) (hT : kT lay t) : zMet lay MX7_takeCounts 0 [.ref t, .ref s] I J (fun r I' J' => r = .null ∧ I' = zup I t 2 (nI 0) ∧ (vT I' J' t (ztk n) ∧ ∀ x, x ≠ t + 1 → x ≠ t + 2 → J' x = J x)) := by
  refine zMet_of (t := MX7_takeCounts) (ls := [.ref t, .ref s, .null]) (by decide +kernel) (Nat.le_of_ble_eq_true rfl) rfl ?_
  refine z_iconst (pc := 0) (v := nI 0) dX7_takeCounts_0 (by decide) ?_
  refine z_istore_n (pc := 1) dX7_takeCounts_1 rfl (by decide) rfl ?_
  try dsimp only [zst1, zst2, zk]
  refine l_X7_takeCounts hS hV hB hT 9 0 _ rfl ⟨fun y hy => by omega, fun y hy => by omega, fun _ _ _ => rfl⟩ (fun J' h => ⟨rfl, rfl, ⟨fun k hk => ?_, fun k hk => ?_, ?_⟩, h.2.2⟩)
  · rw [h.1 k hk]; unfold ztk; rw [if_neg (by omega), if_pos (by omega)]; congr 2; omega
  · rw [h.2.1 k hk]; unfold ztk; rw [if_neg (by omega), if_neg (by omega), if_pos (by omega)]
  · rw [zup_a]; rfl
set_option maxHeartbeats 2000000 in
set_option maxRecDepth 20000 in
theorem c_X7_copyFrom {lay : List zL} {I : zI} {J : zJ} {t o : Nat} {n : Nat → Nat} (hT : kT lay t) (hO : kT lay o) (hV : vT I J o n) (hto : t + 4 < o ∨ o + 4 < t) : zMet lay MX7_copyFrom 1 [.ref t, .ref o] I J (fun r I' J' => r = .null ∧ I' = zup I t 2 (nI (n 3)) ∧ (vT I' J' t n ∧ ∀ x, x ≠ t + 1 → x ≠ t + 2 → J' x = J x)) := by
  refine zMet_of (t := MX7_copyFrom) (ls := [.ref t, .ref o]) (by decide +kernel) (Nat.le_of_ble_eq_true rfl) rfl ?_
  obtain ⟨t1, t2, t3, t4, t5⟩ := hT
  obtain ⟨g1, g2, g3, g4, g5⟩ := hO
  obtain ⟨v0, v1, v2⟩ := hV
  refine z_aload_n (pc := 0) dX7_copyFrom_0 rfl rfl ?_
  refine z_getR (pc := 1) dX7_copyFrom_1 f_RX7_9 (by assumption) rfl ?_
  refine z_iconst (pc := 4) (v := nI 0) dX7_copyFrom_4 (by decide) ?_
  refine z_aload_n (pc := 5) dX7_copyFrom_5 rfl rfl ?_
  refine z_getR (pc := 6) dX7_copyFrom_6 f_RX7_9 (by assumption) rfl ?_
  refine z_iconst (pc := 9) (v := nI 0) dX7_copyFrom_9 (by decide) ?_
  refine z_bipush (pc := 10) (v := nI 9) dX7_copyFrom_10 (by decide) ?_
  first | refine z_copyI (pc := 12) dX7_copyFrom_12 lc_RX7_38 (by assumption) (by assumption) rfl rfl rfl (by omega) (by omega) (by decide) (by decide) (by omega) (Nat.le_of_ble_eq_true rfl) ?_ | refine z_copyJ (pc := 12) dX7_copyFrom_12 lc_RX7_38 (by assumption) (by assumption) rfl rfl rfl (by omega) (by omega) (by decide) (by decide) (by omega) (Nat.le_of_ble_eq_true rfl) ?_
  refine z_aload_n (pc := 15) dX7_copyFrom_15 rfl rfl ?_
  refine z_getR (pc := 16) dX7_copyFrom_16 f_RX7_15 (by assumption) rfl ?_
  refine z_iconst (pc := 19) (v := nI 0) dX7_copyFrom_19 (by decide) ?_
  refine z_aload_n (pc := 20) dX7_copyFrom_20 rfl rfl ?_
  refine z_getR (pc := 21) dX7_copyFrom_21 f_RX7_15 (by assumption) rfl ?_
  refine z_iconst (pc := 24) (v := nI 0) dX7_copyFrom_24 (by decide) ?_
  refine z_bipush (pc := 25) (v := nI 9) dX7_copyFrom_25 (by decide) ?_
  first | refine z_copyI (pc := 27) dX7_copyFrom_27 lc_RX7_38 (by assumption) (by assumption) rfl rfl rfl (by omega) (by omega) (by decide) (by decide) (by omega) (Nat.le_of_ble_eq_true rfl) ?_ | refine z_copyJ (pc := 27) dX7_copyFrom_27 lc_RX7_38 (by assumption) (by assumption) rfl rfl rfl (by omega) (by omega) (by decide) (by decide) (by omega) (Nat.le_of_ble_eq_true rfl) ?_
  refine z_aload_n (pc := 30) dX7_copyFrom_30 rfl rfl ?_
  refine z_aload_n (pc := 31) dX7_copyFrom_31 rfl rfl ?_
  refine z_getIv (pc := 32) dX7_copyFrom_32 f_RX7_34 (by assumption) rfl (by first | assumption | rfl) ?_
  refine z_putI (pc := 35) dX7_copyFrom_35 f_RX7_34 (by assumption) rfl ?_
  refine z_vret (pc := 38) dX7_copyFrom_38 rfl ?_
  refine ⟨rfl, rfl, ⟨fun k hk => ?_, fun k hk => ?_, ?_⟩, fun x p q => ?_⟩
  · simp (disch := omega) only [zcp_o, zcp_b]
    rw [if_pos (by omega), ← v0 k hk]; congr 1; omega
  · simp (disch := omega) only [zcp_o, zcp_b]
    rw [if_pos (by omega), ← v1 k hk]; congr 1; omega
  · rw [zup_a]; rfl
  · simp (disch := omega) only [zcp_o]
theorem zmul2 {a b : Nat} (ha : a ≤ 999999) (hb : b ≤ 999999) : a * b ≤ 999998000001 := Nat.le_trans (Nat.mul_le_mul ha hb) (by decide)
theorem zmul3 {a g b : Nat} (ha : a ≤ 999999) (hg : g ≤ 60) (hb : b ≤ 999999) : a * (g * b) ≤ 59999880000060 := Nat.le_trans (Nat.mul_le_mul ha (Nat.mul_le_mul hg hb)) (by decide)
set_option maxHeartbeats 2000000 in
set_option maxRecDepth 20000 in
theorem c_X7_compare {lay : List zL} {I : zI} {J : zJ} {t a b : Nat} {n : Nat → Nat} (hT : kT lay t) (hU : vT I J t n) (hb : bT n) (h1 : a < 9) (h2 : b < 9) : zMet lay MX7_compare 1 [.ref t, .int (nI a), .int (nI b)] I J (fun r I' J' => ((r = .int (-1) ∧ n (34 + a) * n (43 + b) < n (34 + b) * n (43 + a)) ∨ (r = .int (nI 0) ∧ n (34 + a) * n (43 + b) = n (34 + b) * n (43 + a)) ∨ (r = .int (nI 1) ∧ n (34 + b) * n (43 + a) < n (34 + a) * n (43 + b))) ∧ I = I' ∧ J = J') := by
  refine zMet_of (t := MX7_compare) (ls := [.ref t, .int (nI a), .int (nI b)]) (by decide +kernel) (Nat.le_of_ble_eq_true rfl) rfl ?_
  have hT' := hT
  obtain ⟨t1, t2, t3, t4, t5⟩ := hT
  obtain ⟨w0, w1, w2⟩ := id hU
  have ha := hb a h1
  have hbb := hb b h2
  have m1 := zmul2 ha.1 hbb.2.2
  have m2 := zmul2 hbb.1 ha.2.2
  refine z_aload_n (pc := 0) dX7_compare_0 rfl rfl ?_
  refine z_getR (pc := 1) dX7_compare_1 f_RX7_9 (by assumption) rfl ?_
  refine z_iload_n (pc := 4) dX7_compare_4 rfl rfl ?_
  refine z_laloadv (pc := 5) dX7_compare_5 (by assumption) (by with_reducible rfl) (by omega) (by decide) (by first | assumption | exact w0 _ (by omega) | exact w1 _ (by omega) | rfl) ?_
  refine z_aload_n (pc := 6) dX7_compare_6 rfl rfl ?_
  refine z_getR (pc := 7) dX7_compare_7 f_RX7_15 (by assumption) rfl ?_
  refine z_iload_n (pc := 10) dX7_compare_10 rfl rfl ?_
  refine z_laloadv (pc := 11) dX7_compare_11 (by assumption) (by with_reducible rfl) (by omega) (by decide) (by first | assumption | exact w0 _ (by omega) | exact w1 _ (by omega) | rfl) ?_
  first | refine z_lmulN (pc := 12) (by with_reducible rfl) (by with_reducible rfl) dX7_compare_12 ?_ | refine z_lmul (pc := 12) dX7_compare_12 ?_
  refine z_aload_n (pc := 13) dX7_compare_13 rfl rfl ?_
  refine z_getR (pc := 14) dX7_compare_14 f_RX7_9 (by assumption) rfl ?_
  refine z_iload_n (pc := 17) dX7_compare_17 rfl rfl ?_
  refine z_laloadv (pc := 18) dX7_compare_18 (by assumption) (by with_reducible rfl) (by omega) (by decide) (by first | assumption | exact w0 _ (by omega) | exact w1 _ (by omega) | rfl) ?_
  refine z_aload_n (pc := 19) dX7_compare_19 rfl rfl ?_
  refine z_getR (pc := 20) dX7_compare_20 f_RX7_15 (by assumption) rfl ?_
  refine z_iload_n (pc := 23) dX7_compare_23 rfl rfl ?_
  refine z_laloadv (pc := 24) dX7_compare_24 (by assumption) (by with_reducible rfl) (by omega) (by decide) (by first | assumption | exact w0 _ (by omega) | exact w1 _ (by omega) | rfl) ?_
  first | refine z_lmulN (pc := 25) (by with_reducible rfl) (by with_reducible rfl) dX7_compare_25 ?_ | refine z_lmul (pc := 25) dX7_compare_25 ?_
  refine z_callS (pc := 26) (c_compare (by omega) (by omega)) dX7_compare_26 l_RX7_44 m_MJ13_compare_74951 s_MJ13_compare_74951 rfl (by omega) rfl (Nat.le_of_ble_eq_true rfl) ?_
  rintro _ _ _ ⟨⟨rfl, hcm⟩ | ⟨rfl, hcm⟩ | ⟨rfl, hcm⟩, rfl, rfl⟩
  · skip
    try dsimp only [zov, Option.toList, List.cons_append, List.nil_append]
    refine z_iret (pc := 29) dX7_compare_29 rfl ?_
    first | exact ⟨Or.inl ⟨rfl, hcm⟩, rfl, rfl⟩ | exact ⟨Or.inr (Or.inl ⟨rfl, hcm⟩), rfl, rfl⟩ | exact ⟨Or.inr (Or.inr ⟨rfl, hcm⟩), rfl, rfl⟩
  · skip
    try dsimp only [zov, Option.toList, List.cons_append, List.nil_append]
    refine z_iret (pc := 29) dX7_compare_29 rfl ?_
    first | exact ⟨Or.inl ⟨rfl, hcm⟩, rfl, rfl⟩ | exact ⟨Or.inr (Or.inl ⟨rfl, hcm⟩), rfl, rfl⟩ | exact ⟨Or.inr (Or.inr ⟨rfl, hcm⟩), rfl, rfl⟩
  · skip
    try dsimp only [zov, Option.toList, List.cons_append, List.nil_append]
    refine z_iret (pc := 29) dX7_compare_29 rfl ?_
    first | exact ⟨Or.inl ⟨rfl, hcm⟩, rfl, rfl⟩ | exact ⟨Or.inr (Or.inl ⟨rfl, hcm⟩), rfl, rfl⟩ | exact ⟨Or.inr (Or.inr ⟨rfl, hcm⟩), rfl, rfl⟩
/-- how many of these cells are otherwise -/
def zdf (n m : Nat → Nat) : List Nat → Nat
  | [] => 0
  | k :: l => (if n (34 + k) = m (34 + k) ∧ n (43 + k) = m (43 + k) then 0 else 1) + zdf n m l
def zred (x y : Nat) : Nat × Nat := (x / Nat.gcd y x, y / Nat.gcd y x)
def zok (p : Nat × Nat) : Bool := decide (p.1 ≤ 999999 ∧ p.2 ≤ 999999)
def zadd (ab bl : Nat → Nat) (P : Nat → Bool) : List Nat → Nat × Nat → Option (Nat × Nat)
  | [], p => some p
  | k :: l, p => if P k = true then (if zok (zred (p.1 * bl k + ab k * p.2) (p.2 * bl k)) = true then zadd ab bl P l (zred (p.1 * bl k + ab k * p.2) (p.2 * bl k)) else none) else zadd ab bl P l p
/-- the sum of a line: the cells by n, what they hold by m -/
def zsm (n m : Nat → Nat) (w l : Nat) : Option (Nat × Nat) := zadd (fun k => m (34 + k)) (fun k => m (43 + k)) (fun k => decide (zline (fun k => n (16 + k)) w k = l)) (zl (n 0) (n 1) 0) (0, 1)
theorem zred_pos {x y : Nat} (hy : 0 < y) : 0 < (zred x y).2 := Nat.div_pos (Nat.gcd_le_left _ hy) (Nat.gcd_pos_of_pos_left _ hy)
set_option maxHeartbeats 2000000 in
set_option maxRecDepth 20000 in
theorem l_X7_countOtherwise {lay : List zL} {Q : Value → zI → zJ → Prop} {I : zI} {J : zJ} {d s t o : Nat} {n m1 m2 : Nat → Nat} (hS : kS lay s) (hV : vS I s n) (hB : bS n) (hT : kT lay t) (hU : vT I J t m1) (hb : bT m1) (hO : kT lay o) (hW : vT I J o m2) (hb2 : bT m2) : ∀ (m i j x : Nat) (w : Value), 4 * (n 0 - i) + (n 1 - j) < m → i < n 0 → j ≤ n 1 → Q (.int (nI (x + zdf m1 m2 (zl (n 0) (n 1) (3 * i + j))))) I J → Z lay MX7_countOtherwise (d + 1) 17 [.ref t, .ref s, .ref o, .int (nI x), .int (nI i), .int (nI j), w] [] I J Q := by
  have hS' := hS
  have hV' := hV
  have hB' := hB
  obtain ⟨h1, h2, h3, h4⟩ := hS
  obtain ⟨v0, v1, v2, v3, v4, v5⟩ := hV
  obtain ⟨b1, b2, b3, b4, b5, b6, b7, b8⟩ := hB
  obtain ⟨t1, t2, t3, t4, t5⟩ := hT
  obtain ⟨g1, g2, g3, g4, g5⟩ := hO
  obtain ⟨w0, w1, w2⟩ := hU
  obtain ⟨u0, u1, u2⟩ := hW
  intro m
  induction m with
  | zero => intro i j x w h; exact absurd h (by omega)
  | succ m ih =>
    intro i j x w hm hi hj hq
    refine z_iload (pc := 17) dX7_countOtherwise_17 rfl ?_
    refine z_aload_n (pc := 19) dX7_countOtherwise_19 rfl rfl ?_
    refine z_getIv (pc := 20) dX7_countOtherwise_20 f_RX7_53 (by assumption) rfl (by first | assumption | exact v3 _ (by omega) | exact v4 _ (by omega) | exact v5 _ (by omega) | exact w0 _ (by omega) | exact w1 _ (by omega) | exact u0 _ (by omega) | exact u1 _ (by omega) | rfl) ?_
    first | refine z_icmp_geN (pc := 23) (tgt := 80) (by with_reducible rfl) (by with_reducible rfl) dX7_countOtherwise_23 (by decide) (by omega) (by omega) (fun hb23 => ?_) (fun hb23 => ?_) | refine z_icmp_ge (pc := 23) (tgt := 80) dX7_countOtherwise_23 (by decide) (fun hb23 => ?_) (fun hb23 => ?_)
    · skip
      first | refine z_iincN (pc := 80) (c := 1) dX7_countOtherwise_80 rfl (by with_reducible rfl) (by decide) (by decide) rfl ?_ | refine z_iinc (pc := 80) dX7_countOtherwise_80 rfl rfl (by decide) rfl ?_
      try dsimp only [zst1, zst2, zk]
      refine z_goto (pc := 83) (tgt := 5) dX7_countOtherwise_83 (by decide) ?_
      refine z_iload (pc := 5) dX7_countOtherwise_5 rfl ?_
      refine z_aload_n (pc := 7) dX7_countOtherwise_7 rfl rfl ?_
      refine z_getIv (pc := 8) dX7_countOtherwise_8 f_RX7_50 (by assumption) rfl (by first | assumption | exact v3 _ (by omega) | exact v4 _ (by omega) | exact v5 _ (by omega) | exact w0 _ (by omega) | exact w1 _ (by omega) | exact u0 _ (by omega) | exact u1 _ (by omega) | rfl) ?_
      first | refine z_icmp_geN (pc := 11) (tgt := 86) (by with_reducible rfl) (by with_reducible rfl) dX7_countOtherwise_11 (by decide) (by omega) (by omega) (fun hb11 => ?_) (fun hb11 => ?_) | refine z_icmp_ge (pc := 11) (tgt := 86) dX7_countOtherwise_11 (by decide) (fun hb11 => ?_) (fun hb11 => ?_)
      · skip
        refine z_iload_n (pc := 86) dX7_countOtherwise_86 rfl rfl ?_
        refine z_iret (pc := 87) dX7_countOtherwise_87 rfl ?_
        obtain rfl : j = n 1 := (by omega); obtain h9 : i + 1 = n 0 := (by omega); rw [zl_row _ b2 _ b4 _ hi, h9, zl_end _ b2 _ b4] at hq; exact hq
      · skip
        refine z_iconst (pc := 14) (v := nI 0) dX7_countOtherwise_14 (by decide) ?_
        refine z_istore (pc := 15) dX7_countOtherwise_15 (by decide) rfl ?_
        try dsimp only [zst1, zst2, zk]
        first
          | exact ih i (j + 1) _ _ (by omega) (by omega) (by omega) (by rw [zl_in _ b2 _ b4 _ hi _ (by omega)] at hq; simp only [zdf] at hq; rw [if_pos ⟨by omega, by omega⟩, Nat.zero_add] at hq; exact hq)
          | exact ih i (j + 1) _ _ (by omega) (by omega) (by omega) (by rw [zl_in _ b2 _ b4 _ hi _ (by omega)] at hq; simp only [zdf] at hq; rw [if_neg (by omega)] at hq; rw [Nat.add_assoc]; exact hq)
          | exact ih (i + 1) 0 _ _ (by omega) (by omega) (by omega) (by obtain rfl : j = n 1 := (by omega); rw [zl_row _ b2 _ b4 _ hi] at hq; exact hq)
    · skip
      refine z_iload (pc := 26) dX7_countOtherwise_26 rfl ?_
      refine z_iload (pc := 28) dX7_countOtherwise_28 rfl ?_
      refine z_callN (pc := 30) c_X9_place dX7_countOtherwise_30 zN_56 m_MX9_place s_MX9_place rfl (by omega) rfl (Nat.le_of_ble_eq_true rfl) ?_
      rintro _ _ _ (⟨rfl, rfl, rfl⟩)
      try dsimp only [zov, Option.toList, List.cons_append, List.nil_append]
      refine z_istore (pc := 33) dX7_countOtherwise_33 (by decide) rfl ?_
      try dsimp only [zst1, zst2, zk]
      have ha := hb (3 * i + j) (by omega); have hbb := hb2 (3 * i + j) (by omega)
      refine z_aload_n (pc := 35) dX7_countOtherwise_35 rfl rfl ?_
      refine z_getR (pc := 36) dX7_countOtherwise_36 f_RX7_9 (by assumption) rfl ?_
      refine z_iload (pc := 39) dX7_countOtherwise_39 rfl ?_
      refine z_laloadv (pc := 41) dX7_countOtherwise_41 (by assumption) (by with_reducible rfl) (by omega) (by decide) (by first | assumption | exact v3 _ (by omega) | exact v4 _ (by omega) | exact v5 _ (by omega) | exact w0 _ (by omega) | exact w1 _ (by omega) | exact u0 _ (by omega) | exact u1 _ (by omega) | rfl) ?_
      refine z_aload_n (pc := 42) dX7_countOtherwise_42 rfl rfl ?_
      refine z_getR (pc := 43) dX7_countOtherwise_43 f_RX7_9 (by assumption) rfl ?_
      refine z_iload (pc := 46) dX7_countOtherwise_46 rfl ?_
      refine z_laloadv (pc := 48) dX7_countOtherwise_48 (by assumption) (by with_reducible rfl) (by omega) (by decide) (by first | assumption | exact v3 _ (by omega) | exact v4 _ (by omega) | exact v5 _ (by omega) | exact w0 _ (by omega) | exact w1 _ (by omega) | exact u0 _ (by omega) | exact u1 _ (by omega) | rfl) ?_
      first | refine z_lc_neN (pc := 49) (tgt := 71) (by with_reducible rfl) (by with_reducible rfl) dX7_countOtherwise_49 rfl dX7_countOtherwise_50 (by decide) (by omega) (by omega) (fun hb49 => ?_) (fun hb49 => ?_) | refine z_lc_ne (pc := 49) (tgt := 71) dX7_countOtherwise_49 rfl dX7_countOtherwise_50 (by decide) (fun hb49 => ?_) (fun hb49 => ?_)
      · skip
        first | refine z_iincN (pc := 71) (c := 1) dX7_countOtherwise_71 rfl (by with_reducible rfl) (by decide) (by decide) rfl ?_ | refine z_iinc (pc := 71) dX7_countOtherwise_71 rfl rfl (by decide) rfl ?_
        try dsimp only [zst1, zst2, zk]
        first | refine z_iincN (pc := 74) (c := 1) dX7_countOtherwise_74 rfl (by with_reducible rfl) (by decide) (by decide) rfl ?_ | refine z_iinc (pc := 74) dX7_countOtherwise_74 rfl rfl (by decide) rfl ?_
        try dsimp only [zst1, zst2, zk]
        refine z_goto (pc := 77) (tgt := 17) dX7_countOtherwise_77 (by decide) ?_
        first
          | exact ih i (j + 1) _ _ (by omega) (by omega) (by omega) (by rw [zl_in _ b2 _ b4 _ hi _ (by omega)] at hq; simp only [zdf] at hq; rw [if_pos ⟨by omega, by omega⟩, Nat.zero_add] at hq; exact hq)
          | exact ih i (j + 1) _ _ (by omega) (by omega) (by omega) (by rw [zl_in _ b2 _ b4 _ hi _ (by omega)] at hq; simp only [zdf] at hq; rw [if_neg (by omega)] at hq; rw [Nat.add_assoc]; exact hq)
          | exact ih (i + 1) 0 _ _ (by omega) (by omega) (by omega) (by obtain rfl : j = n 1 := (by omega); rw [zl_row _ b2 _ b4 _ hi] at hq; exact hq)
      · skip
        refine z_aload_n (pc := 53) dX7_countOtherwise_53 rfl rfl ?_
        refine z_getR (pc := 54) dX7_countOtherwise_54 f_RX7_15 (by assumption) rfl ?_
        refine z_iload (pc := 57) dX7_countOtherwise_57 rfl ?_
        refine z_laloadv (pc := 59) dX7_countOtherwise_59 (by assumption) (by with_reducible rfl) (by omega) (by decide) (by first | assumption | exact v3 _ (by omega) | exact v4 _ (by omega) | exact v5 _ (by omega) | exact w0 _ (by omega) | exact w1 _ (by omega) | exact u0 _ (by omega) | exact u1 _ (by omega) | rfl) ?_
        refine z_aload_n (pc := 60) dX7_countOtherwise_60 rfl rfl ?_
        refine z_getR (pc := 61) dX7_countOtherwise_61 f_RX7_15 (by assumption) rfl ?_
        refine z_iload (pc := 64) dX7_countOtherwise_64 rfl ?_
        refine z_laloadv (pc := 66) dX7_countOtherwise_66 (by assumption) (by with_reducible rfl) (by omega) (by decide) (by first | assumption | exact v3 _ (by omega) | exact v4 _ (by omega) | exact v5 _ (by omega) | exact w0 _ (by omega) | exact w1 _ (by omega) | exact u0 _ (by omega) | exact u1 _ (by omega) | rfl) ?_
        first | refine z_lc_eqN (pc := 67) (tgt := 74) (by with_reducible rfl) (by with_reducible rfl) dX7_countOtherwise_67 rfl dX7_countOtherwise_68 (by decide) (by omega) (by omega) (fun hb67 => ?_) (fun hb67 => ?_) | refine z_lc_eq (pc := 67) (tgt := 74) dX7_countOtherwise_67 rfl dX7_countOtherwise_68 (by decide) (fun hb67 => ?_) (fun hb67 => ?_)
        · skip
          first | refine z_iincN (pc := 74) (c := 1) dX7_countOtherwise_74 rfl (by with_reducible rfl) (by decide) (by decide) rfl ?_ | refine z_iinc (pc := 74) dX7_countOtherwise_74 rfl rfl (by decide) rfl ?_
          try dsimp only [zst1, zst2, zk]
          refine z_goto (pc := 77) (tgt := 17) dX7_countOtherwise_77 (by decide) ?_
          first
            | exact ih i (j + 1) _ _ (by omega) (by omega) (by omega) (by rw [zl_in _ b2 _ b4 _ hi _ (by omega)] at hq; simp only [zdf] at hq; rw [if_pos ⟨by omega, by omega⟩, Nat.zero_add] at hq; exact hq)
            | exact ih i (j + 1) _ _ (by omega) (by omega) (by omega) (by rw [zl_in _ b2 _ b4 _ hi _ (by omega)] at hq; simp only [zdf] at hq; rw [if_neg (by omega)] at hq; rw [Nat.add_assoc]; exact hq)
            | exact ih (i + 1) 0 _ _ (by omega) (by omega) (by omega) (by obtain rfl : j = n 1 := (by omega); rw [zl_row _ b2 _ b4 _ hi] at hq; exact hq)
        · skip
          first | refine z_iincN (pc := 71) (c := 1) dX7_countOtherwise_71 rfl (by with_reducible rfl) (by decide) (by decide) rfl ?_ | refine z_iinc (pc := 71) dX7_countOtherwise_71 rfl rfl (by decide) rfl ?_
          try dsimp only [zst1, zst2, zk]
          first | refine z_iincN (pc := 74) (c := 1) dX7_countOtherwise_74 rfl (by with_reducible rfl) (by decide) (by decide) rfl ?_ | refine z_iinc (pc := 74) dX7_countOtherwise_74 rfl rfl (by decide) rfl ?_
          try dsimp only [zst1, zst2, zk]
          refine z_goto (pc := 77) (tgt := 17) dX7_countOtherwise_77 (by decide) ?_
          first
            | exact ih i (j + 1) _ _ (by omega) (by omega) (by omega) (by rw [zl_in _ b2 _ b4 _ hi _ (by omega)] at hq; simp only [zdf] at hq; rw [if_pos ⟨by omega, by omega⟩, Nat.zero_add] at hq; exact hq)
            | exact ih i (j + 1) _ _ (by omega) (by omega) (by omega) (by rw [zl_in _ b2 _ b4 _ hi _ (by omega)] at hq; simp only [zdf] at hq; rw [if_neg (by omega)] at hq; rw [Nat.add_assoc]; exact hq)
            | exact ih (i + 1) 0 _ _ (by omega) (by omega) (by omega) (by obtain rfl : j = n 1 := (by omega); rw [zl_row _ b2 _ b4 _ hi] at hq; exact hq)
set_option maxHeartbeats 2000000 in
set_option maxRecDepth 20000 in
theorem c_X7_countOtherwise {lay : List zL} {I : zI} {J : zJ} {s t o : Nat} {n m1 m2 : Nat → Nat} (hS : kS lay s) (hV : vS I s n) (hB : bS n) (hT : kT lay t) (hU : vT I J t m1) (hb : bT m1) (hO : kT lay o) (hW : vT I J o m2) (hb2 : bT m2) : zMet lay MX7_countOtherwise 1 [.ref t, .ref s, .ref o] I J (fun r I' J' => r = .int (nI (zdf m1 m2 (zl (n 0) (n 1) 0))) ∧ I = I' ∧ J = J') := by
  refine zMet_of (t := MX7_countOtherwise) (ls := [.ref t, .ref s, .ref o, .null, .null, .null, .null]) (by decide +kernel) (Nat.le_of_ble_eq_true rfl) rfl ?_
  have hS' := hS
  have hV' := hV
  have hB' := hB
  obtain ⟨h1, h2, h3, h4⟩ := hS
  obtain ⟨v0, v1, v2, v3, v4, v5⟩ := hV
  obtain ⟨b1, b2, b3, b4, b5, b6, b7, b8⟩ := hB
  refine z_iconst (pc := 0) (v := nI 0) dX7_countOtherwise_0 (by decide) ?_
  refine z_istore_n (pc := 1) dX7_countOtherwise_1 rfl (by decide) rfl ?_
  try dsimp only [zst1, zst2, zk]
  refine z_iconst (pc := 2) (v := nI 0) dX7_countOtherwise_2 (by decide) ?_
  refine z_istore (pc := 3) dX7_countOtherwise_3 (by decide) rfl ?_
  try dsimp only [zst1, zst2, zk]
  refine z_iload (pc := 5) dX7_countOtherwise_5 rfl ?_
  refine z_aload_n (pc := 7) dX7_countOtherwise_7 rfl rfl ?_
  refine z_getIv (pc := 8) dX7_countOtherwise_8 f_RX7_50 (by assumption) rfl (by first | assumption | exact v3 _ (by omega) | exact v4 _ (by omega) | exact v5 _ (by omega) | rfl) ?_
  first | refine z_icmp_geN (pc := 11) (tgt := 86) (by with_reducible rfl) (by with_reducible rfl) dX7_countOtherwise_11 (by decide) (by omega) (by omega) (fun hb11 => absurd hb11 (by omega)) (fun hb11 => ?_) | refine z_icmp_ge (pc := 11) (tgt := 86) dX7_countOtherwise_11 (by decide) (fun hb11 => absurd hb11 (by omega)) (fun hb11 => ?_)
  · skip
    refine z_iconst (pc := 14) (v := nI 0) dX7_countOtherwise_14 (by decide) ?_
    refine z_istore (pc := 15) dX7_countOtherwise_15 (by decide) rfl ?_
    try dsimp only [zst1, zst2, zk]
    exact l_X7_countOtherwise hS' hV' hB' hT hU hb hO hW hb2 100 0 0 0 _ (by omega) (by omega) (by omega) ⟨by rw [Nat.zero_add], rfl, rfl⟩
