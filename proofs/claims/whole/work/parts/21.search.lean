/-! ===== whole numbers: the search ===== -/
def zset1 (v : Nat → Nat) (k x : Nat) : Nat → Nat := fun j => if j = k then x else v j
def zrs (n v : Nat → Nat) (i : Nat) : Nat := zmsum (fun j => v (3 * i + j)) (n 1) 0
def zcs (n v : Nat → Nat) (j : Nat) : Nat := zmsum (fun i => v (3 * i + j)) (n 0) 0
def zas (n v : Nat → Nat) : Nat := zmsum (fun i => zrs n v i) (n 0) 0
def zst (n m : Nat → Nat) (l x : Nat) : Bool := decide (zdn (zpl n m l) ≤ x ∧ x ≤ zhi (zpl n m l))
def zallb (P : Nat → Bool) : Nat → Nat → Bool
  | 0, _ => true
  | f + 1, k => P k && zallb P f (k + 1)
def ztry (f : Nat → Option (Nat → Nat)) : Nat → Nat → Option (Nat → Nat)
  | 0, _ => none
  | c + 1, x => match f x with
    | some w => some w
    | none => ztry f c (x + 1)
/-- the search, a row's sum looked at as soon as the row is full -/
def zpf (n m : Nat → Nat) : Nat → Nat → Nat → (Nat → Nat) → Option (Nat → Nat)
  | 0, _, _, _ => none
  | u + 1, i, j, v => if n 0 ≤ i then (if (zallb (fun j => zst n m (3 + j) (zcs n v j)) (n 1) 0 && zst n m 6 (zas n v)) = true then some v else none)
    else if n 1 ≤ j then (if zst n m i (zrs n v i) = true then zpf n m u (i + 1) 0 v else none)
    else ztry (fun x => zpf n m u i (j + 1) (zset1 v (3 * i + j) x)) (zhi (m (34 + (3 * i + j)), m (43 + (3 * i + j))) + 1 - zdn (m (34 + (3 * i + j)), m (43 + (3 * i + j)))) (zdn (m (34 + (3 * i + j)), m (43 + (3 * i + j))))
def zRH (I : zI) (r : Nat) (n m : Nat → Nat) : Prop := I r 7 = nI (n 0) ∧ I r 8 = nI (n 1) ∧ (∀ k, k < 9 → I (r + 2) k = nI (zdn (m (34 + k), m (43 + k)))) ∧ (∀ k, k < 9 → I (r + 3) k = nI (zhi (m (34 + k), m (43 + k)))) ∧ zbds I r n m 0 (n 0) ∧ zbds I r n m 3 (3 + n 1) ∧ zbds I r n m 6 7
theorem zRH_to {I I' : zI} {r : Nat} {n m : Nat → Nat} (h : zRH I r n m) (hf : ∀ x, x ≠ r + 1 → I' x = I x) : zRH I' r n m := by
  unfold zRH zbds
  rw [hf r (by omega), hf (r + 2) (by omega), hf (r + 3) (by omega), hf (r + 4) (by omega), hf (r + 5) (by omega)]
  exact h
def zagr (I : zI) (r : Nat) (n v : Nat → Nat) (p : Nat) : Prop := ∀ k, k < p → k / 3 < n 0 → k % 3 < n 1 → I (r + 1) k = nI (v k) ∧ v k ≤ 1000000
theorem zpl_bd {n m : Nat → Nat} (hm : bT m) (l : Nat) : zbd (zpl n m l) := by
  have h0 : zbd ((0 : Nat), (1 : Nat)) := ⟨by decide, by decide, by decide⟩
  have h1 : ∀ o : Option (Nat × Nat), (∀ q, o = some q → zbd q) → zbd (o.getD (0, 1)) := by
    intro o h
    cases o with
    | none => exact h0
    | some q => exact h q rfl
  unfold zpl
  refine h1 _ ?_
  intro q hq
  split at hq
  · exact zsm_bd hm hq
  · split at hq
    · exact zsm_bd hm hq
    · exact zttl_bd hm _ _ _ _ h0 hq
theorem zrs_le {I : zI} {r : Nat} {n v : Nat → Nat} {i p : Nat} (h : zagr I r n v p) (hi : i < n 0) (hc : n 1 ≤ 3) (hp : 3 * i + n 1 ≤ p) : zrs n v i ≤ 3000000 := by
  have h1 := zmsum_le (f := fun j => v (3 * i + j)) (b := 1000000) (n 1) 0 (fun j _ hj => (h (3 * i + j) (by omega) (by omega) (by omega)).2)
  unfold zrs
  omega
theorem zcs_le {I : zI} {r : Nat} {n v : Nat → Nat} {j p : Nat} (h : zagr I r n v p) (hj : j < n 1) (hr : n 0 ≤ 3) (hc : n 1 ≤ 3) (hp : 3 * n 0 ≤ p) : zcs n v j ≤ 3000000 := by
  have h1 := zmsum_le (f := fun i => v (3 * i + j)) (b := 1000000) (n 0) 0 (fun i _ hi => (h (3 * i + j) (by omega) (by omega) (by omega)).2)
  unfold zcs
  omega
theorem zas_le {I : zI} {r : Nat} {n v : Nat → Nat} {p : Nat} (h : zagr I r n v p) (hr : n 0 ≤ 3) (hc : n 1 ≤ 3) (hp : 3 * n 0 ≤ p) : zas n v ≤ 9000000 := by
  have h1 := zmsum_le (f := fun i => zrs n v i) (b := 3000000) (n 0) 0 (fun i _ hi => zrs_le h (by omega) hc (by omega))
  unfold zas
  omega
set_option maxHeartbeats 2000000 in
set_option maxRecDepth 20000 in
theorem c_X4_stands {lay : List zL} {I : zI} {J : zJ} {r0 l x : Nat} {n m1 : Nat → Nat} (hR : kR lay r0) (hH : zRH I r0 n m1) (hB : bS n) (hb : bT m1) (hl : l < n 0 ∨ (3 ≤ l ∧ l < 3 + n 1) ∨ l = 6) (hx : x < 2147483648) : zMet lay MX4_stands 0 [.ref r0, .int (nI l), .int (nI x)] I J (fun r I' J' => ((r = .int (nI 1) ∧ zst n m1 l x = true) ∨ (r = .int (nI 0) ∧ zst n m1 l x = false)) ∧ I = I' ∧ J = J') := by
  refine zMet_of (t := MX4_stands) (ls := [.ref r0, .int (nI l), .int (nI x)]) (by decide +kernel) (Nat.le_of_ble_eq_true rfl) rfl ?_
  have hR' := hR
  obtain ⟨q0, ⟨q1, q2, q3⟩, ⟨q4, q5⟩, q6, q7⟩ := hR
  obtain ⟨g7, g8, glo, ghi, gb0, gb3, gb6⟩ := id hH
  obtain ⟨b1, b2, b3, b4, b5, b6, b7, b8⟩ := id hB
  have hpb := zhi_le (zpl_bd (n := n) hb l)
  have h1 : I (r0 + 4) l = nI (zdn (zpl n m1 l)) ∧ I (r0 + 5) l = nI (zhi (zpl n m1 l)) := by
    rcases hl with h | h | h
    · exact gb0 l (by omega) h
    · exact gb3 l h.1 h.2
    · exact gb6 l (by omega) (by omega)
  obtain ⟨h2, h3⟩ := h1
  refine z_iload_n (pc := 0) dX4_stands_0 rfl rfl ?_
  refine z_aload_n (pc := 1) dX4_stands_1 rfl rfl ?_
  refine z_getR (pc := 2) dX4_stands_2 f_RX4_21 (by assumption) rfl ?_
  refine z_iload_n (pc := 5) dX4_stands_5 rfl rfl ?_
  refine z_ialoadv (pc := 6) dX4_stands_6 (by assumption) (by with_reducible rfl) (by omega) (by decide) (by first | assumption | rfl) ?_
  first | refine z_icmp_ltN (pc := 7) (tgt := 24) (by with_reducible rfl) (by with_reducible rfl) dX4_stands_7 (by decide) (by omega) (by omega) (fun hb7 => ?_) (fun hb7 => ?_) | refine z_icmp_lt (pc := 7) (tgt := 24) dX4_stands_7 (by decide) (fun hb7 => ?_) (fun hb7 => ?_)
  · skip
    refine z_iconst (pc := 24) (v := nI 0) dX4_stands_24 (by decide) ?_
    refine z_zret (pc := 25) dX4_stands_25 rfl (by first | decide | assumption) ?_
    first | exact ⟨Or.inl ⟨rfl, decide_eq_true (by omega)⟩, rfl, rfl⟩ | exact ⟨Or.inr ⟨rfl, decide_eq_false (by omega)⟩, rfl, rfl⟩ | fail
  · skip
    refine z_iload_n (pc := 10) dX4_stands_10 rfl rfl ?_
    refine z_aload_n (pc := 11) dX4_stands_11 rfl rfl ?_
    refine z_getR (pc := 12) dX4_stands_12 f_RX4_24 (by assumption) rfl ?_
    refine z_iload_n (pc := 15) dX4_stands_15 rfl rfl ?_
    refine z_ialoadv (pc := 16) dX4_stands_16 (by assumption) (by with_reducible rfl) (by omega) (by decide) (by first | assumption | rfl) ?_
    first | refine z_icmp_gtN (pc := 17) (tgt := 24) (by with_reducible rfl) (by with_reducible rfl) dX4_stands_17 (by decide) (by omega) (by omega) (fun hb17 => ?_) (fun hb17 => ?_) | refine z_icmp_gt (pc := 17) (tgt := 24) dX4_stands_17 (by decide) (fun hb17 => ?_) (fun hb17 => ?_)
    · skip
      refine z_iconst (pc := 24) (v := nI 0) dX4_stands_24 (by decide) ?_
      refine z_zret (pc := 25) dX4_stands_25 rfl (by first | decide | assumption) ?_
      first | exact ⟨Or.inl ⟨rfl, decide_eq_true (by omega)⟩, rfl, rfl⟩ | exact ⟨Or.inr ⟨rfl, decide_eq_false (by omega)⟩, rfl, rfl⟩ | fail
    · skip
      refine z_iconst (pc := 20) (v := nI 1) dX4_stands_20 (by decide) ?_
      refine z_goto (pc := 21) (tgt := 25) dX4_stands_21 (by decide) ?_
      refine z_zret (pc := 25) dX4_stands_25 rfl (by first | decide | assumption) ?_
      first | exact ⟨Or.inl ⟨rfl, decide_eq_true (by omega)⟩, rfl, rfl⟩ | exact ⟨Or.inr ⟨rfl, decide_eq_false (by omega)⟩, rfl, rfl⟩ | fail
set_option maxHeartbeats 2000000 in
set_option maxRecDepth 20000 in
theorem l_X4_rowPut {lay : List zL} {Q : Value → zI → zJ → Prop} {I : zI} {J : zJ} {d r0 : Nat} {n m1 v : Nat → Nat} (hR : kR lay r0) (hH : zRH I r0 n m1) (hB : bS n) (hb : bT m1) {i : Nat} (hi : i < n 0) (hv : ∀ j, j < n 1 → I (r0 + 1) (3 * i + j) = nI (v (3 * i + j))) : ∀ (m k x : Nat), k + m = n 1 → Q (.int (nI (x + zmsum (fun j => v (3 * i + j)) m k))) I J → Z lay MX4_rowPut (d + 1) 4 [.ref r0, .int (nI i), .int (nI x), .int (nI k)] [] I J Q := by
  have hR' := hR
  obtain ⟨q0, ⟨q1, q2, q3⟩, ⟨q4, q5⟩, q6, q7⟩ := hR
  obtain ⟨g7, g8, glo, ghi, gb0, gb3, gb6⟩ := id hH
  obtain ⟨b1, b2, b3, b4, b5, b6, b7, b8⟩ := id hB
  intro m
  induction m with
  | zero =>
    intro k x hk hq
    refine z_iload_n (pc := 4) dX4_rowPut_4 rfl rfl ?_
    refine z_aload_n (pc := 5) dX4_rowPut_5 rfl rfl ?_
    refine z_getIv (pc := 6) dX4_rowPut_6 f_RX4_47 (by assumption) rfl (by first | assumption | rfl) ?_
    first | refine z_icmp_geN (pc := 9) (tgt := 31) (by with_reducible rfl) (by with_reducible rfl) dX4_rowPut_9 (by decide) (by omega) (by omega) (fun hb9 => ?_) (fun hb9 => absurd hb9 (by omega)) | refine z_icmp_ge (pc := 9) (tgt := 31) dX4_rowPut_9 (by decide) (fun hb9 => ?_) (fun hb9 => absurd hb9 (by omega))
    · skip
      refine z_iload_n (pc := 31) dX4_rowPut_31 rfl rfl ?_
      refine z_iret (pc := 32) dX4_rowPut_32 rfl ?_
      exact hq
  | succ m ih =>
    intro k x hk hq
    refine z_iload_n (pc := 4) dX4_rowPut_4 rfl rfl ?_
    refine z_aload_n (pc := 5) dX4_rowPut_5 rfl rfl ?_
    refine z_getIv (pc := 6) dX4_rowPut_6 f_RX4_47 (by assumption) rfl (by first | assumption | exact hv _ (by omega) | rfl) ?_
    first | refine z_icmp_geN (pc := 9) (tgt := 31) (by with_reducible rfl) (by with_reducible rfl) dX4_rowPut_9 (by decide) (by omega) (by omega) (fun hb9 => absurd hb9 (by omega)) (fun hb9 => ?_) | refine z_icmp_ge (pc := 9) (tgt := 31) dX4_rowPut_9 (by decide) (fun hb9 => absurd hb9 (by omega)) (fun hb9 => ?_)
    · skip
      refine z_iload_n (pc := 12) dX4_rowPut_12 rfl rfl ?_
      refine z_aload_n (pc := 13) dX4_rowPut_13 rfl rfl ?_
      refine z_getR (pc := 14) dX4_rowPut_14 f_RX4_9 (by assumption) rfl ?_
      refine z_iload_n (pc := 17) dX4_rowPut_17 rfl rfl ?_
      refine z_iload_n (pc := 18) dX4_rowPut_18 rfl rfl ?_
      refine z_callN (pc := 19) c_X9_place dX4_rowPut_19 zN_70 m_MX9_place s_MX9_place rfl (by omega) rfl (Nat.le_of_ble_eq_true rfl) ?_
      rintro _ _ _ (⟨rfl, rfl, rfl⟩)
      try dsimp only [zov, Option.toList, List.cons_append, List.nil_append]
      refine z_ialoadv (pc := 22) dX4_rowPut_22 (by assumption) (by with_reducible rfl) (by omega) (by decide) (by first | assumption | exact hv _ (by omega) | rfl) ?_
      first | refine z_iaddN (pc := 23) (by with_reducible rfl) (by with_reducible rfl) dX4_rowPut_23 ?_ | refine z_iadd (pc := 23) dX4_rowPut_23 ?_
      refine z_istore_n (pc := 24) dX4_rowPut_24 rfl (by decide) rfl ?_
      try dsimp only [zst1, zst2, zk]
      first | refine z_iincN (pc := 25) (c := 1) dX4_rowPut_25 rfl (by with_reducible rfl) (by decide) (by decide) rfl ?_ | refine z_iinc (pc := 25) dX4_rowPut_25 rfl rfl (by decide) rfl ?_
      try dsimp only [zst1, zst2, zk]
      refine z_goto (pc := 28) (tgt := 4) dX4_rowPut_28 (by decide) ?_
      exact ih (k + 1) _ (by omega) (by rw [Nat.add_assoc]; exact hq)
set_option maxHeartbeats 2000000 in
set_option maxRecDepth 20000 in
theorem c_X4_rowPut {lay : List zL} {I : zI} {J : zJ} {r0 i : Nat} {n m1 v : Nat → Nat} (hR : kR lay r0) (hH : zRH I r0 n m1) (hB : bS n) (hb : bT m1) (hi : i < n 0) (hv : ∀ j, j < n 1 → I (r0 + 1) (3 * i + j) = nI (v (3 * i + j))) : zMet lay MX4_rowPut 1 [.ref r0, .int (nI i)] I J (fun r I' J' => r = .int (nI (zrs n v i)) ∧ I = I' ∧ J = J') := by
  refine zMet_of (t := MX4_rowPut) (ls := [.ref r0, .int (nI i), .null, .null]) (by decide +kernel) (Nat.le_of_ble_eq_true rfl) rfl ?_
  refine z_iconst (pc := 0) (v := nI 0) dX4_rowPut_0 (by decide) ?_
  refine z_istore_n (pc := 1) dX4_rowPut_1 rfl (by decide) rfl ?_
  try dsimp only [zst1, zst2, zk]
  refine z_iconst (pc := 2) (v := nI 0) dX4_rowPut_2 (by decide) ?_
  refine z_istore_n (pc := 3) dX4_rowPut_3 rfl (by decide) rfl ?_
  try dsimp only [zst1, zst2, zk]
  exact l_X4_rowPut hR hH hB hb hi hv (n 1) 0 0 (Nat.zero_add _) ⟨by rw [Nat.zero_add]; rfl, rfl, rfl⟩
set_option maxHeartbeats 2000000 in
set_option maxRecDepth 20000 in
theorem l_X4_allPut {lay : List zL} {Q : Value → zI → zJ → Prop} {I : zI} {J : zJ} {d r0 : Nat} {n m1 v : Nat → Nat} (hR : kR lay r0) (hH : zRH I r0 n m1) (hB : bS n) (hb : bT m1) (hv : zagr I r0 n v (3 * n 0)) : ∀ (m k x : Nat), k + m = n 0 → Q (.int (nI (x + zmsum (fun i => zrs n v i) m k))) I J → Z lay MX4_allPut (d + 2) 4 [.ref r0, .int (nI x), .int (nI k)] [] I J Q := by
  have hR' := hR
  obtain ⟨q0, ⟨q1, q2, q3⟩, ⟨q4, q5⟩, q6, q7⟩ := hR
  obtain ⟨g7, g8, glo, ghi, gb0, gb3, gb6⟩ := id hH
  obtain ⟨b1, b2, b3, b4, b5, b6, b7, b8⟩ := id hB
  intro m
  induction m with
  | zero =>
    intro k x hk hq
    refine z_iload_n (pc := 4) dX4_allPut_4 rfl rfl ?_
    refine z_aload_n (pc := 5) dX4_allPut_5 rfl rfl ?_
    refine z_getIv (pc := 6) dX4_allPut_6 f_RX4_43 (by assumption) rfl (by first | assumption | rfl) ?_
    first | refine z_icmp_geN (pc := 9) (tgt := 26) (by with_reducible rfl) (by with_reducible rfl) dX4_allPut_9 (by decide) (by omega) (by omega) (fun hb9 => ?_) (fun hb9 => absurd hb9 (by omega)) | refine z_icmp_ge (pc := 9) (tgt := 26) dX4_allPut_9 (by decide) (fun hb9 => ?_) (fun hb9 => absurd hb9 (by omega))
    · skip
      refine z_iload_n (pc := 26) dX4_allPut_26 rfl rfl ?_
      refine z_iret (pc := 27) dX4_allPut_27 rfl ?_
      exact hq
  | succ m ih =>
    intro k x hk hq
    refine z_iload_n (pc := 4) dX4_allPut_4 rfl rfl ?_
    refine z_aload_n (pc := 5) dX4_allPut_5 rfl rfl ?_
    refine z_getIv (pc := 6) dX4_allPut_6 f_RX4_43 (by assumption) rfl (by first | assumption | rfl) ?_
    first | refine z_icmp_geN (pc := 9) (tgt := 26) (by with_reducible rfl) (by with_reducible rfl) dX4_allPut_9 (by decide) (by omega) (by omega) (fun hb9 => absurd hb9 (by omega)) (fun hb9 => ?_) | refine z_icmp_ge (pc := 9) (tgt := 26) dX4_allPut_9 (by decide) (fun hb9 => absurd hb9 (by omega)) (fun hb9 => ?_)
    · skip
      refine z_iload_n (pc := 12) dX4_allPut_12 rfl rfl ?_
      refine z_aload_n (pc := 13) dX4_allPut_13 rfl rfl ?_
      refine z_iload_n (pc := 14) dX4_allPut_14 rfl rfl ?_
      refine z_callV (pc := 15) (c_X4_rowPut (v := v) (by assumption) (by assumption) (by assumption) (by assumption) (by omega) (fun j hj => (hv _ (by omega) (by omega) (by omega)).1)) dX4_allPut_15 l_RX4_116 m_MX4_rowPut n_MX4_rowPut e_MX4_rowPut rfl (by omega) (by assumption) rfl rfl (Nat.le_of_ble_eq_true rfl) ?_
      rintro _ _ _ (⟨rfl, rfl, rfl⟩)
      try dsimp only [zov, Option.toList, List.cons_append, List.nil_append]
      first | refine z_iaddN (pc := 18) (by with_reducible rfl) (by with_reducible rfl) dX4_allPut_18 ?_ | refine z_iadd (pc := 18) dX4_allPut_18 ?_
      refine z_istore_n (pc := 19) dX4_allPut_19 rfl (by decide) rfl ?_
      try dsimp only [zst1, zst2, zk]
      first | refine z_iincN (pc := 20) (c := 1) dX4_allPut_20 rfl (by with_reducible rfl) (by decide) (by decide) rfl ?_ | refine z_iinc (pc := 20) dX4_allPut_20 rfl rfl (by decide) rfl ?_
      try dsimp only [zst1, zst2, zk]
      refine z_goto (pc := 23) (tgt := 4) dX4_allPut_23 (by decide) ?_
      exact ih (k + 1) _ (by omega) (by rw [Nat.add_assoc]; exact hq)
set_option maxHeartbeats 2000000 in
set_option maxRecDepth 20000 in
theorem c_X4_allPut {lay : List zL} {I : zI} {J : zJ} {r0 : Nat} {n m1 v : Nat → Nat} (hR : kR lay r0) (hH : zRH I r0 n m1) (hB : bS n) (hb : bT m1) (hv : zagr I r0 n v (3 * n 0)) : zMet lay MX4_allPut 2 [.ref r0] I J (fun r I' J' => r = .int (nI (zas n v)) ∧ I = I' ∧ J = J') := by
  refine zMet_of (t := MX4_allPut) (ls := [.ref r0, .null, .null]) (by decide +kernel) (Nat.le_of_ble_eq_true rfl) rfl ?_
  refine z_iconst (pc := 0) (v := nI 0) dX4_allPut_0 (by decide) ?_
  refine z_istore_n (pc := 1) dX4_allPut_1 rfl (by decide) rfl ?_
  try dsimp only [zst1, zst2, zk]
  refine z_iconst (pc := 2) (v := nI 0) dX4_allPut_2 (by decide) ?_
  refine z_istore_n (pc := 3) dX4_allPut_3 rfl (by decide) rfl ?_
  try dsimp only [zst1, zst2, zk]
  exact l_X4_allPut hR hH hB hb hv (n 0) 0 0 (Nat.zero_add _) ⟨by rw [Nat.zero_add]; rfl, rfl, rfl⟩
set_option maxHeartbeats 2000000 in
set_option maxRecDepth 20000 in
theorem l_X4_dcs_in {lay : List zL} {Q : Value → zI → zJ → Prop} {I : zI} {J : zJ} {d r0 : Nat} {n m1 v : Nat → Nat} (hR : kR lay r0) (hH : zRH I r0 n m1) (hB : bS n) (hb : bT m1) (hv : zagr I r0 n v (3 * n 0)) {j : Nat} (hj : j < n 1) : ∀ (m k x : Nat), k + m = n 0 → Z lay MX4_doColumnsStand (d + 1) 41 [.ref r0, .int (nI j), .int (nI (x + zmsum (fun i => v (3 * i + j)) m k)), .int (nI (n 0))] [] I J Q → Z lay MX4_doColumnsStand (d + 1) 14 [.ref r0, .int (nI j), .int (nI x), .int (nI k)] [] I J Q := by
  have hR' := hR
  obtain ⟨q0, ⟨q1, q2, q3⟩, ⟨q4, q5⟩, q6, q7⟩ := hR
  obtain ⟨g7, g8, glo, ghi, gb0, gb3, gb6⟩ := id hH
  obtain ⟨b1, b2, b3, b4, b5, b6, b7, b8⟩ := id hB
  intro m
  induction m with
  | zero =>
    intro k x hk hq
    obtain rfl : k = n 0 := (by omega)
    refine z_iload_n (pc := 14) dX4_doColumnsStand_14 rfl rfl ?_
    refine z_aload_n (pc := 15) dX4_doColumnsStand_15 rfl rfl ?_
    refine z_getIv (pc := 16) dX4_doColumnsStand_16 f_RX4_43 (by assumption) rfl (by first | assumption | rfl) ?_
    first | refine z_icmp_geN (pc := 19) (tgt := 41) (by with_reducible rfl) (by with_reducible rfl) dX4_doColumnsStand_19 (by decide) (by omega) (by omega) (fun hb19 => ?_) (fun hb19 => absurd hb19 (by omega)) | refine z_icmp_ge (pc := 19) (tgt := 41) dX4_doColumnsStand_19 (by decide) (fun hb19 => ?_) (fun hb19 => absurd hb19 (by omega))
    · skip
      exact hq
  | succ m ih =>
    intro k x hk hq
    refine z_iload_n (pc := 14) dX4_doColumnsStand_14 rfl rfl ?_
    refine z_aload_n (pc := 15) dX4_doColumnsStand_15 rfl rfl ?_
    refine z_getIv (pc := 16) dX4_doColumnsStand_16 f_RX4_43 (by assumption) rfl (by first | assumption | exact (hv _ (by omega) (by omega) (by omega)).1 | rfl) ?_
    first | refine z_icmp_geN (pc := 19) (tgt := 41) (by with_reducible rfl) (by with_reducible rfl) dX4_doColumnsStand_19 (by decide) (by omega) (by omega) (fun hb19 => absurd hb19 (by omega)) (fun hb19 => ?_) | refine z_icmp_ge (pc := 19) (tgt := 41) dX4_doColumnsStand_19 (by decide) (fun hb19 => absurd hb19 (by omega)) (fun hb19 => ?_)
    · skip
      refine z_iload_n (pc := 22) dX4_doColumnsStand_22 rfl rfl ?_
      refine z_aload_n (pc := 23) dX4_doColumnsStand_23 rfl rfl ?_
      refine z_getR (pc := 24) dX4_doColumnsStand_24 f_RX4_9 (by assumption) rfl ?_
      refine z_iload_n (pc := 27) dX4_doColumnsStand_27 rfl rfl ?_
      refine z_iload_n (pc := 28) dX4_doColumnsStand_28 rfl rfl ?_
      refine z_callN (pc := 29) c_X9_place dX4_doColumnsStand_29 zN_70 m_MX9_place s_MX9_place rfl (by omega) rfl (Nat.le_of_ble_eq_true rfl) ?_
      rintro _ _ _ (⟨rfl, rfl, rfl⟩)
      try dsimp only [zov, Option.toList, List.cons_append, List.nil_append]
      refine z_ialoadv (pc := 32) dX4_doColumnsStand_32 (by assumption) (by with_reducible rfl) (by omega) (by decide) (by first | assumption | exact (hv _ (by omega) (by omega) (by omega)).1 | rfl) ?_
      first | refine z_iaddN (pc := 33) (by with_reducible rfl) (by with_reducible rfl) dX4_doColumnsStand_33 ?_ | refine z_iadd (pc := 33) dX4_doColumnsStand_33 ?_
      refine z_istore_n (pc := 34) dX4_doColumnsStand_34 rfl (by decide) rfl ?_
      try dsimp only [zst1, zst2, zk]
      first | refine z_iincN (pc := 35) (c := 1) dX4_doColumnsStand_35 rfl (by with_reducible rfl) (by decide) (by decide) rfl ?_ | refine z_iinc (pc := 35) dX4_doColumnsStand_35 rfl rfl (by decide) rfl ?_
      try dsimp only [zst1, zst2, zk]
      refine z_goto (pc := 38) (tgt := 14) dX4_doColumnsStand_38 (by decide) ?_
      exact ih (k + 1) _ (by omega) (by rw [Nat.add_assoc]; exact hq)
set_option maxHeartbeats 2000000 in
set_option maxRecDepth 20000 in
theorem l_X4_dcs {lay : List zL} {Q : Value → zI → zJ → Prop} {I : zI} {J : zJ} {d r0 : Nat} {n m1 v : Nat → Nat} (hR : kR lay r0) (hH : zRH I r0 n m1) (hB : bS n) (hb : bT m1) (hv : zagr I r0 n v (3 * n 0)) : ∀ (m k : Nat) (w1 w2 : Value), k + m = n 1 → (zallb (fun j => zst n m1 (3 + j) (zcs n v j)) m k = true → Q (.int (nI 1)) I J) → (zallb (fun j => zst n m1 (3 + j) (zcs n v j)) m k = false → Q (.int (nI 0)) I J) → Z lay MX4_doColumnsStand (d + 1) 2 [.ref r0, .int (nI k), w1, w2] [] I J Q := by
  have hR' := hR
  obtain ⟨q0, ⟨q1, q2, q3⟩, ⟨q4, q5⟩, q6, q7⟩ := hR
  obtain ⟨g7, g8, glo, ghi, gb0, gb3, gb6⟩ := id hH
  obtain ⟨b1, b2, b3, b4, b5, b6, b7, b8⟩ := id hB
  intro m
  induction m with
  | zero =>
    intro k w1 w2 hk hq hn
    refine z_iload_n (pc := 2) dX4_doColumnsStand_2 rfl rfl ?_
    refine z_aload_n (pc := 3) dX4_doColumnsStand_3 rfl rfl ?_
    refine z_getIv (pc := 4) dX4_doColumnsStand_4 f_RX4_47 (by assumption) rfl (by first | assumption | rfl) ?_
    first | refine z_icmp_geN (pc := 7) (tgt := 62) (by with_reducible rfl) (by with_reducible rfl) dX4_doColumnsStand_7 (by decide) (by omega) (by omega) (fun hb7 => ?_) (fun hb7 => absurd hb7 (by omega)) | refine z_icmp_ge (pc := 7) (tgt := 62) dX4_doColumnsStand_7 (by decide) (fun hb7 => ?_) (fun hb7 => absurd hb7 (by omega))
    · skip
      refine z_iconst (pc := 62) (v := nI 1) dX4_doColumnsStand_62 (by decide) ?_
      refine z_zret (pc := 63) dX4_doColumnsStand_63 rfl (by first | decide | assumption) ?_
      exact hq rfl
  | succ m ih =>
    intro k w1 w2 hk hq hn
    have hcs := zcs_le hv (j := k) (by omega) b2 b4 (Nat.le_refl _)
    refine z_iload_n (pc := 2) dX4_doColumnsStand_2 rfl rfl ?_
    refine z_aload_n (pc := 3) dX4_doColumnsStand_3 rfl rfl ?_
    refine z_getIv (pc := 4) dX4_doColumnsStand_4 f_RX4_47 (by assumption) rfl (by first | assumption | rfl) ?_
    first | refine z_icmp_geN (pc := 7) (tgt := 62) (by with_reducible rfl) (by with_reducible rfl) dX4_doColumnsStand_7 (by decide) (by omega) (by omega) (fun hb7 => absurd hb7 (by omega)) (fun hb7 => ?_) | refine z_icmp_ge (pc := 7) (tgt := 62) dX4_doColumnsStand_7 (by decide) (fun hb7 => absurd hb7 (by omega)) (fun hb7 => ?_)
    · skip
      refine z_iconst (pc := 10) (v := nI 0) dX4_doColumnsStand_10 (by decide) ?_
      refine z_istore_n (pc := 11) dX4_doColumnsStand_11 rfl (by decide) rfl ?_
      try dsimp only [zst1, zst2, zk]
      refine z_iconst (pc := 12) (v := nI 0) dX4_doColumnsStand_12 (by decide) ?_
      refine z_istore_n (pc := 13) dX4_doColumnsStand_13 rfl (by decide) rfl ?_
      try dsimp only [zst1, zst2, zk]
      refine l_X4_dcs_in hR' hH hB hb hv (j := k) (by omega) (n 0) 0 0 (Nat.zero_add _) ?_
      rw [Nat.zero_add]
      refine z_aload_n (pc := 41) dX4_doColumnsStand_41 rfl rfl ?_
      refine z_iconst (pc := 42) (v := nI 1) dX4_doColumnsStand_42 (by decide) ?_
      refine z_iload_n (pc := 43) dX4_doColumnsStand_43 rfl rfl ?_
      refine z_callN (pc := 44) c_X9_place dX4_doColumnsStand_44 zN_70 m_MX9_place s_MX9_place rfl (by omega) rfl (Nat.le_of_ble_eq_true rfl) ?_
      rintro _ _ _ (⟨rfl, rfl, rfl⟩)
      try dsimp only [zov, Option.toList, List.cons_append, List.nil_append]
      refine z_iload_n (pc := 47) dX4_doColumnsStand_47 rfl rfl ?_
      refine z_callV (pc := 48) (c_X4_stands (n := n) (m1 := m1) (by assumption) (by assumption) (by assumption) (by assumption) (by omega) (by have h9 : zmsum (fun i => v (3 * i + k)) (n 0) 0 ≤ 3000000 := hcs; omega)) dX4_doColumnsStand_48 l_RX4_112 m_MX4_stands n_MX4_stands e_MX4_stands rfl (by omega) (by assumption) rfl rfl (Nat.le_of_ble_eq_true rfl) ?_
      rintro _ _ _ ⟨⟨rfl, hs⟩ | ⟨rfl, hs⟩, rfl, rfl⟩
      · skip
        try dsimp only [zov, Option.toList, List.cons_append, List.nil_append]
        first | refine z_if_neN (pc := 51) (tgt := 56) (by with_reducible rfl) dX4_doColumnsStand_51 (by decide) (by omega) (fun hb51 => ?_) (fun hb51 => absurd hb51 (by decide)) | refine z_if_ne (pc := 51) (tgt := 56) dX4_doColumnsStand_51 (by decide) (fun hb51 => ?_) (fun hb51 => absurd hb51 (by decide))
        · skip
          first | refine z_iincN (pc := 56) (c := 1) dX4_doColumnsStand_56 rfl (by with_reducible rfl) (by decide) (by decide) rfl ?_ | refine z_iinc (pc := 56) dX4_doColumnsStand_56 rfl rfl (by decide) rfl ?_
          try dsimp only [zst1, zst2, zk]
          refine z_goto (pc := 59) (tgt := 2) dX4_doColumnsStand_59 (by decide) ?_
          have hs2 : zst n m1 (3 + k) (zcs n v k) = true := hs
          exact ih (k + 1) _ _ (by omega) (fun e => hq (by simp only [zallb]; rw [hs2, Bool.true_and]; exact e)) (fun e => hn (by simp only [zallb]; rw [hs2, Bool.true_and]; exact e))
      · skip
        try dsimp only [zov, Option.toList, List.cons_append, List.nil_append]
        first | refine z_if_neN (pc := 51) (tgt := 56) (by with_reducible rfl) dX4_doColumnsStand_51 (by decide) (by omega) (fun hb51 => absurd hb51 (by decide)) (fun hb51 => ?_) | refine z_if_ne (pc := 51) (tgt := 56) dX4_doColumnsStand_51 (by decide) (fun hb51 => absurd hb51 (by decide)) (fun hb51 => ?_)
        · skip
          refine z_iconst (pc := 54) (v := nI 0) dX4_doColumnsStand_54 (by decide) ?_
          refine z_zret (pc := 55) dX4_doColumnsStand_55 rfl (by first | decide | assumption) ?_
          have hs2 : zst n m1 (3 + k) (zcs n v k) = false := hs
          exact hn (by simp only [zallb]; rw [hs2, Bool.false_and])
set_option maxHeartbeats 2000000 in
set_option maxRecDepth 20000 in
theorem c_X4_doColumnsStand {lay : List zL} {I : zI} {J : zJ} {r0 : Nat} {n m1 v : Nat → Nat} (hR : kR lay r0) (hH : zRH I r0 n m1) (hB : bS n) (hb : bT m1) (hv : zagr I r0 n v (3 * n 0)) : zMet lay MX4_doColumnsStand 1 [.ref r0] I J (fun r I' J' => ((r = .int (nI 1) ∧ zallb (fun j => zst n m1 (3 + j) (zcs n v j)) (n 1) 0 = true) ∨ (r = .int (nI 0) ∧ zallb (fun j => zst n m1 (3 + j) (zcs n v j)) (n 1) 0 = false)) ∧ I = I' ∧ J = J') := by
  refine zMet_of (t := MX4_doColumnsStand) (ls := [.ref r0, .null, .null, .null]) (by decide +kernel) (Nat.le_of_ble_eq_true rfl) rfl ?_
  refine z_iconst (pc := 0) (v := nI 0) dX4_doColumnsStand_0 (by decide) ?_
  refine z_istore_n (pc := 1) dX4_doColumnsStand_1 rfl (by decide) rfl ?_
  try dsimp only [zst1, zst2, zk]
  exact l_X4_dcs hR hH hB hb hv (n 1) 0 _ _ (Nat.zero_add _) (fun e => ⟨Or.inl ⟨rfl, e⟩, rfl, rfl⟩) (fun e => ⟨Or.inr ⟨rfl, e⟩, rfl, rfl⟩)
