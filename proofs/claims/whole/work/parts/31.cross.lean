/-! ===== quotients: what is cancelled, what is multiplied ===== -/
def zcan1 (i j : Nat) (p : (Nat → Nat) × (Nat → Nat)) : (Nat → Nat) × (Nat → Nat) := (zset1 p.1 i (p.1 i / Nat.gcd (p.2 j) (p.1 i)), zset1 p.2 j (p.2 j / Nat.gcd (p.2 j) (p.1 i)))
def zcanf : Nat → Nat → (Nat → Nat) × (Nat → Nat) → (Nat → Nat) × (Nat → Nat)
  | 0, _, p => p
  | m + 1, k, p => zcanf m (k + 1) (zcan1 (k / 4) (k % 4) p)
def zpr (A : Nat → Nat) : Nat → Nat → Nat → Option Nat
  | 0, _, x => some x
  | m + 1, i, x => if x * A i ≤ 9223372036854775807 then zpr A m (i + 1) (x * A i) else none
def zpl4 (o : Option Nat) : Int64 := match o with
  | some x => lN x
  | none => -9223372036854775808
def zcB (p : (Nat → Nat) × (Nat → Nat)) : Prop := (∀ k, k < 4 → p.1 k ≤ 999999) ∧ ∀ k, k < 4 → 1 ≤ p.2 k ∧ p.2 k ≤ 999999
theorem zcan1_B {i j : Nat} {p : (Nat → Nat) × (Nat → Nat)} (h : zcB p) (hi : i < 4) (hj : j < 4) : zcB (zcan1 i j p) := by
  obtain ⟨h1, h2⟩ := h
  have hg : 0 < Nat.gcd (p.2 j) (p.1 i) := Nat.gcd_pos_of_pos_left _ (h2 j hj).1
  have hgl : Nat.gcd (p.2 j) (p.1 i) ≤ p.2 j := Nat.gcd_le_left _ (h2 j hj).1
  refine ⟨fun k hk => ?_, fun k hk => ?_⟩
  · show (if k = i then _ else p.1 k) ≤ _
    by_cases q : k = i
    · rw [if_pos q]; exact Nat.le_trans (Nat.div_le_self _ _) (h1 i hi)
    · rw [if_neg q]; exact h1 k hk
  · show 1 ≤ (if k = j then _ else p.2 k) ∧ (if k = j then _ else p.2 k) ≤ _
    by_cases q : k = j
    · rw [if_pos q]; exact ⟨Nat.div_pos hgl hg, Nat.le_trans (Nat.div_le_self _ _) (h2 j hj).2⟩
    · rw [if_neg q]; exact h2 k hk
theorem zcanf_B : ∀ (m k : Nat) (p : (Nat → Nat) × (Nat → Nat)), k + m ≤ 16 → zcB p → zcB (zcanf m k p)
  | 0, _, _, _, h => h
  | m + 1, k, p, hk, h => zcanf_B m (k + 1) _ (by omega) (zcan1_B h (by omega) (Nat.mod_lt _ (by decide)))
def zhU (J0 : zJ) (u : Nat) (p : (Nat → Nat) × (Nat → Nat)) (J : zJ) : Prop := (∀ k, k < 4 → J (u + 1) k = lN (p.1 k)) ∧ (∀ k, k < 4 → J (u + 2) k = lN (p.2 k)) ∧ ∀ x, x ≠ u + 1 → x ≠ u + 2 → J x = J0 x
theorem zhU_same {J0 J : zJ} {u i j : Nat} {p : (Nat → Nat) × (Nat → Nat)} (h : zhU J0 u p J) (hg : ¬ 1 < Nat.gcd (p.2 j) (p.1 i)) (h0 : 1 ≤ p.2 j) : zhU J0 u (zcan1 i j p) J := by
  have hg2 : 0 < Nat.gcd (p.2 j) (p.1 i) := Nat.gcd_pos_of_pos_left _ h0
  have e : Nat.gcd (p.2 j) (p.1 i) = 1 := (by omega)
  have e2 : zcan1 i j p = p := by
    unfold zcan1
    rw [e, Nat.div_one, Nat.div_one]
    refine Prod.ext (funext fun k => ?_) (funext fun k => ?_)
    · show (if k = i then _ else p.1 k) = _
      by_cases q : k = i
      · rw [if_pos q, q]
      · rw [if_neg q]
    · show (if k = j then _ else p.2 k) = _
      by_cases q : k = j
      · rw [if_pos q, q]
      · rw [if_neg q]
  rw [e2]; exact h
theorem zhU_step {J0 J : zJ} {u i j : Nat} {p : (Nat → Nat) × (Nat → Nat)} (h : zhU J0 u p J) : zhU J0 u (zcan1 i j p) (zup (zup J (u + 1) i (lN (p.1 i / Nat.gcd (p.2 j) (p.1 i)))) (u + 2) j (lN (p.2 j / Nat.gcd (p.2 j) (p.1 i)))) := by
  obtain ⟨h1, h2, h3⟩ := h
  refine ⟨fun k hk => ?_, fun k hk => ?_, fun x q1 q2 => ?_⟩
  · rw [zup_o (by omega), zup_a]
    show (if k = i then _ else J (u + 1) k) = lN (if k = i then _ else p.1 k)
    by_cases q : k = i
    · rw [if_pos q, if_pos q]
    · rw [if_neg q, if_neg q]; exact h1 k hk
  · rw [zup_a]
    show (if k = j then _ else zup J (u + 1) i _ (u + 2) k) = lN (if k = j then _ else p.2 k)
    by_cases q : k = j
    · rw [if_pos q, if_pos q]
    · rw [if_neg q, if_neg q, zup_o (by omega)]; exact h2 k hk
  · rw [zup_o q2, zup_o q1]; exact h3 x q1 q2
theorem zcanf_s {m i j : Nat} {p : (Nat → Nat) × (Nat → Nat)} (hj : j < 4) : zcanf (m + 1) (4 * i + j) p = zcanf m (4 * i + (j + 1)) (zcan1 i j p) := by
  show zcanf m (4 * i + j + 1) (zcan1 ((4 * i + j) / 4) ((4 * i + j) % 4) p) = _
  rw [show (4 * i + j) / 4 = i by omega, show (4 * i + j) % 4 = j by omega, Nat.add_assoc]
set_option maxHeartbeats 2000000 in
set_option maxRecDepth 20000 in
theorem l_X3_cancel {lay : List zL} {Q : Value → zI → zJ → Prop} {I : zI} {d u : Nat} {J0 : zJ} (hU : kU lay u) (h2 : I u 2 = nI 4) : ∀ (m i j : Nat) (p : (Nat → Nat) × (Nat → Nat)) (J : zJ) (w : Value), 5 * (4 - i) + (4 - j) < m → i < 4 → j ≤ 4 → zhU J0 u p J → zcB p → (∀ J', zhU J0 u (zcanf (16 - (4 * i + j)) (4 * i + j) p) J' → Q .null I J') → Z lay MX3_cancel (d + 1) 12 [.ref u, .int (nI i), .int (nI j), w, .null] [] I J Q := by
  obtain ⟨k1, k2, k3⟩ := id hU
  intro m
  induction m with
  | zero => intro i j p J w h; exact absurd h (by omega)
  | succ m ih =>
    intro i j p J w hm hi hj hh hb hq
    have h2' := h2
    refine z_iload_n (pc := 12) dX3_cancel_12 rfl rfl ?_
    refine z_aload_n (pc := 13) dX3_cancel_13 rfl rfl ?_
    refine z_getIv (pc := 14) dX3_cancel_14 f_RX3_18 (by assumption) rfl (by first | assumption | exact hh.1 _ (by omega) | exact hh.2.1 _ (by omega) | exact (congrFun (zup_o (show u + 2 ≠ u + 1 by omega)) _).trans (hh.2.1 _ (by omega)) | rfl) ?_
    first | refine z_icmp_geN (pc := 17) (tgt := 68) (by with_reducible rfl) (by with_reducible rfl) dX3_cancel_17 (by decide) (by omega) (by omega) (fun hb17 => ?_) (fun hb17 => ?_) | refine z_icmp_ge (pc := 17) (tgt := 68) dX3_cancel_17 (by decide) (fun hb17 => ?_) (fun hb17 => ?_)
    · skip
      first | refine z_iincN (pc := 68) (c := 1) dX3_cancel_68 rfl (by with_reducible rfl) (by decide) (by decide) rfl ?_ | refine z_iinc (pc := 68) dX3_cancel_68 rfl rfl (by decide) rfl ?_
      try dsimp only [zst1, zst2, zk]
      refine z_goto (pc := 71) (tgt := 2) dX3_cancel_71 (by decide) ?_
      refine z_iload_n (pc := 2) dX3_cancel_2 rfl rfl ?_
      refine z_aload_n (pc := 3) dX3_cancel_3 rfl rfl ?_
      refine z_getIv (pc := 4) dX3_cancel_4 f_RX3_18 (by assumption) rfl (by first | assumption | exact hh.1 _ (by omega) | exact hh.2.1 _ (by omega) | exact (congrFun (zup_o (show u + 2 ≠ u + 1 by omega)) _).trans (hh.2.1 _ (by omega)) | rfl) ?_
      first | refine z_icmp_geN (pc := 7) (tgt := 74) (by with_reducible rfl) (by with_reducible rfl) dX3_cancel_7 (by decide) (by omega) (by omega) (fun hb7 => ?_) (fun hb7 => ?_) | refine z_icmp_ge (pc := 7) (tgt := 74) dX3_cancel_7 (by decide) (fun hb7 => ?_) (fun hb7 => ?_)
      · skip
        refine z_vret (pc := 74) dX3_cancel_74 rfl ?_
        obtain rfl : j = 4 := (by omega); obtain rfl : i = 3 := (by omega); exact hq _ hh
      · skip
        refine z_iconst (pc := 10) (v := nI 0) dX3_cancel_10 (by decide) ?_
        refine z_istore_n (pc := 11) dX3_cancel_11 rfl (by decide) rfl ?_
        try dsimp only [zst1, zst2, zk]
        first
          | exact ih i (j + 1) _ _ _ (by omega) (by omega) (by omega) (zhU_same hh (by omega) hB2.1) (zcan1_B hb hi (by omega)) (by obtain ⟨e, he⟩ : ∃ e, 16 - (4 * i + j) = e + 1 := ⟨16 - (4 * i + j) - 1, by omega⟩; rw [he, zcanf_s (by omega), show e = 16 - (4 * i + (j + 1)) by omega] at hq; exact hq)
          | exact ih i (j + 1) _ _ _ (by omega) (by omega) (by omega) (zhU_step hh) (zcan1_B hb hi (by omega)) (by obtain ⟨e, he⟩ : ∃ e, 16 - (4 * i + j) = e + 1 := ⟨16 - (4 * i + j) - 1, by omega⟩; rw [he, zcanf_s (by omega), show e = 16 - (4 * i + (j + 1)) by omega] at hq; exact hq)
          | exact ih (i + 1) 0 _ _ _ (by omega) (by omega) (by omega) hh hb (by obtain rfl : j = 4 := (by omega); exact hq)
          | fail
    · skip
      have hA := hb.1 i hi; have hB2 := hb.2 j (by omega); have hg0 : 0 < Nat.gcd (p.2 j) (p.1 i) := Nat.gcd_pos_of_pos_left _ hB2.1; have hgl : Nat.gcd (p.2 j) (p.1 i) ≤ p.2 j := Nat.gcd_le_left _ hB2.1
      refine z_aload_n (pc := 20) dX3_cancel_20 rfl rfl ?_
      refine z_getR (pc := 21) dX3_cancel_21 f_RX3_11 (by assumption) rfl ?_
      refine z_iload_n (pc := 24) dX3_cancel_24 rfl rfl ?_
      refine z_laloadv (pc := 25) dX3_cancel_25 (by assumption) (by with_reducible rfl) (by omega) (by decide) (by first | assumption | exact hh.1 _ (by omega) | exact hh.2.1 _ (by omega) | exact (congrFun (zup_o (show u + 2 ≠ u + 1 by omega)) _).trans (hh.2.1 _ (by omega)) | rfl) ?_
      refine z_aload_n (pc := 26) dX3_cancel_26 rfl rfl ?_
      refine z_getR (pc := 27) dX3_cancel_27 f_RX3_15 (by assumption) rfl ?_
      refine z_iload_n (pc := 30) dX3_cancel_30 rfl rfl ?_
      refine z_laloadv (pc := 31) dX3_cancel_31 (by assumption) (by with_reducible rfl) (by omega) (by decide) (by first | assumption | exact hh.1 _ (by omega) | exact hh.2.1 _ (by omega) | exact (congrFun (zup_o (show u + 2 ≠ u + 1 by omega)) _).trans (hh.2.1 _ (by omega)) | rfl) ?_
      refine z_callS (pc := 32) (c_X0_commonOf (by omega) (by omega)) dX3_cancel_32 l_RX3_43 m_MX0_commonOf s_MX0_commonOf rfl (by omega) rfl (Nat.le_of_ble_eq_true rfl) ?_
      rintro _ _ _ (⟨rfl, rfl, rfl⟩)
      try dsimp only [zov, Option.toList, List.cons_append, List.nil_append]
      refine z_lstore_n (pc := 35) dX3_cancel_35 rfl (by decide) rfl ?_
      try dsimp only [zst1, zst2, zk]
      refine z_lload_n (pc := 36) dX3_cancel_36 rfl rfl ?_
      refine z_lconst (pc := 37) (v := lN 1) dX3_cancel_37 rfl ?_
      first | refine z_lc_leN (pc := 38) (tgt := 62) (by with_reducible rfl) (by with_reducible rfl) dX3_cancel_38 rfl dX3_cancel_39 (by decide) (by omega) (by omega) (fun hb38 => ?_) (fun hb38 => ?_) | refine z_lc_le (pc := 38) (tgt := 62) dX3_cancel_38 rfl dX3_cancel_39 (by decide) (fun hb38 => ?_) (fun hb38 => ?_)
      · skip
        first | refine z_iincN (pc := 62) (c := 1) dX3_cancel_62 rfl (by with_reducible rfl) (by decide) (by decide) rfl ?_ | refine z_iinc (pc := 62) dX3_cancel_62 rfl rfl (by decide) rfl ?_
        try dsimp only [zst1, zst2, zk]
        refine z_goto (pc := 65) (tgt := 12) dX3_cancel_65 (by decide) ?_
        first
          | exact ih i (j + 1) _ _ _ (by omega) (by omega) (by omega) (zhU_same hh (by omega) hB2.1) (zcan1_B hb hi (by omega)) (by obtain ⟨e, he⟩ : ∃ e, 16 - (4 * i + j) = e + 1 := ⟨16 - (4 * i + j) - 1, by omega⟩; rw [he, zcanf_s (by omega), show e = 16 - (4 * i + (j + 1)) by omega] at hq; exact hq)
          | exact ih i (j + 1) _ _ _ (by omega) (by omega) (by omega) (zhU_step hh) (zcan1_B hb hi (by omega)) (by obtain ⟨e, he⟩ : ∃ e, 16 - (4 * i + j) = e + 1 := ⟨16 - (4 * i + j) - 1, by omega⟩; rw [he, zcanf_s (by omega), show e = 16 - (4 * i + (j + 1)) by omega] at hq; exact hq)
          | exact ih (i + 1) 0 _ _ _ (by omega) (by omega) (by omega) hh hb (by obtain rfl : j = 4 := (by omega); exact hq)
          | fail
      · skip
        refine z_aload_n (pc := 42) dX3_cancel_42 rfl rfl ?_
        refine z_getR (pc := 43) dX3_cancel_43 f_RX3_11 (by assumption) rfl ?_
        refine z_iload_n (pc := 46) dX3_cancel_46 rfl rfl ?_
        refine z_dup2 (pc := 47) dX3_cancel_47 rfl rfl ?_
        refine z_laloadv (pc := 48) dX3_cancel_48 (by assumption) (by with_reducible rfl) (by omega) (by decide) (by first | assumption | exact hh.1 _ (by omega) | exact hh.2.1 _ (by omega) | exact (congrFun (zup_o (show u + 2 ≠ u + 1 by omega)) _).trans (hh.2.1 _ (by omega)) | rfl) ?_
        refine z_lload_n (pc := 49) dX3_cancel_49 rfl rfl ?_
        refine z_ldivN (pc := 50) (by with_reducible rfl) (by with_reducible rfl) dX3_cancel_50 (by omega) (by omega) (by omega) ?_
        refine z_lastore (pc := 51) dX3_cancel_51 (by assumption) (by with_reducible rfl) (by omega) (by decide) ?_
        refine z_aload_n (pc := 52) dX3_cancel_52 rfl rfl ?_
        refine z_getR (pc := 53) dX3_cancel_53 f_RX3_15 (by assumption) rfl ?_
        refine z_iload_n (pc := 56) dX3_cancel_56 rfl rfl ?_
        refine z_dup2 (pc := 57) dX3_cancel_57 rfl rfl ?_
        refine z_laloadv (pc := 58) dX3_cancel_58 (by assumption) (by with_reducible rfl) (by omega) (by decide) (by first | assumption | exact hh.1 _ (by omega) | exact hh.2.1 _ (by omega) | exact (congrFun (zup_o (show u + 2 ≠ u + 1 by omega)) _).trans (hh.2.1 _ (by omega)) | rfl) ?_
        refine z_lload_n (pc := 59) dX3_cancel_59 rfl rfl ?_
        refine z_ldivN (pc := 60) (by with_reducible rfl) (by with_reducible rfl) dX3_cancel_60 (by omega) (by omega) (by omega) ?_
        refine z_lastore (pc := 61) dX3_cancel_61 (by assumption) (by with_reducible rfl) (by omega) (by decide) ?_
        first | refine z_iincN (pc := 62) (c := 1) dX3_cancel_62 rfl (by with_reducible rfl) (by decide) (by decide) rfl ?_ | refine z_iinc (pc := 62) dX3_cancel_62 rfl rfl (by decide) rfl ?_
        try dsimp only [zst1, zst2, zk]
        refine z_goto (pc := 65) (tgt := 12) dX3_cancel_65 (by decide) ?_
        first
          | exact ih i (j + 1) _ _ _ (by omega) (by omega) (by omega) (zhU_same hh (by omega) hB2.1) (zcan1_B hb hi (by omega)) (by obtain ⟨e, he⟩ : ∃ e, 16 - (4 * i + j) = e + 1 := ⟨16 - (4 * i + j) - 1, by omega⟩; rw [he, zcanf_s (by omega), show e = 16 - (4 * i + (j + 1)) by omega] at hq; exact hq)
          | exact ih i (j + 1) _ _ _ (by omega) (by omega) (by omega) (zhU_step hh) (zcan1_B hb hi (by omega)) (by obtain ⟨e, he⟩ : ∃ e, 16 - (4 * i + j) = e + 1 := ⟨16 - (4 * i + j) - 1, by omega⟩; rw [he, zcanf_s (by omega), show e = 16 - (4 * i + (j + 1)) by omega] at hq; exact hq)
          | exact ih (i + 1) 0 _ _ _ (by omega) (by omega) (by omega) hh hb (by obtain rfl : j = 4 := (by omega); exact hq)
          | fail
set_option maxHeartbeats 2000000 in
set_option maxRecDepth 20000 in
theorem c_X3_cancel {lay : List zL} {I : zI} {J : zJ} {u : Nat} {p : (Nat → Nat) × (Nat → Nat)} (hU : kU lay u) (h2 : I u 2 = nI 4) (hA : ∀ k, k < 4 → J (u + 1) k = lN (p.1 k)) (hB : ∀ k, k < 4 → J (u + 2) k = lN (p.2 k)) (hb : zcB p) : zMet lay MX3_cancel 1 [.ref u] I J (fun r I' J' => r = .null ∧ I = I' ∧ zhU J u (zcanf 16 0 p) J') := by
  refine zMet_of (t := MX3_cancel) (ls := [.ref u, .null, .null, .null, .null]) (by decide +kernel) (Nat.le_of_ble_eq_true rfl) rfl ?_
  obtain ⟨k1, k2, k3⟩ := id hU
  refine z_iconst (pc := 0) (v := nI 0) dX3_cancel_0 (by decide) ?_
  refine z_istore_n (pc := 1) dX3_cancel_1 rfl (by decide) rfl ?_
  try dsimp only [zst1, zst2, zk]
  refine z_iload_n (pc := 2) dX3_cancel_2 rfl rfl ?_
  refine z_aload_n (pc := 3) dX3_cancel_3 rfl rfl ?_
  refine z_getIv (pc := 4) dX3_cancel_4 f_RX3_18 (by assumption) rfl (by first | assumption | rfl) ?_
  first | refine z_icmp_geN (pc := 7) (tgt := 74) (by with_reducible rfl) (by with_reducible rfl) dX3_cancel_7 (by decide) (by omega) (by omega) (fun hb7 => absurd hb7 (by omega)) (fun hb7 => ?_) | refine z_icmp_ge (pc := 7) (tgt := 74) dX3_cancel_7 (by decide) (fun hb7 => absurd hb7 (by omega)) (fun hb7 => ?_)
  · skip
    refine z_iconst (pc := 10) (v := nI 0) dX3_cancel_10 (by decide) ?_
    refine z_istore_n (pc := 11) dX3_cancel_11 rfl (by decide) rfl ?_
    try dsimp only [zst1, zst2, zk]
    exact l_X3_cancel hU h2 100 0 0 p _ _ (by omega) (by omega) (by omega) ⟨hA, hB, fun _ _ _ => rfl⟩ hb (fun J' h => ⟨rfl, rfl, h⟩)
theorem lN_no {x : Nat} (h : x < 9223372036854775808) : ¬ lN x = -9223372036854775808 := fun e => by
  have h1 := congrArg Int64.toInt e
  have h2 : (-9223372036854775808 : Int64).toInt = -9223372036854775808 := by decide
  have h3 : (lN x).toInt = (x : Int) := Int64.toInt_ofNat_of_lt (by omega)
  rw [h2, h3] at h1
  omega
set_option maxHeartbeats 2000000 in
set_option maxRecDepth 20000 in
theorem l_X3_productNo {lay : List zL} {Q : Value → zI → zJ → Prop} {I : zI} {J : zJ} {d u b : Nat} {A : Nat → Nat} (hU : kU lay u) (h2 : I u 2 = nI 4) (hl : lay[b]? = some (.inr (.inr (.inl 4)))) (hA : ∀ k, k < 4 → J b k = lN (A k)) (hb : ∀ k, k < 4 → A k ≤ 999999) : ∀ (m i : Nat), i + m = 4 → Q (.long (-9223372036854775808)) I J → Z lay MX3_productOf (d + 1) 5 [.ref u, .ref b, .long (-9223372036854775808), .null, .int (nI i)] [] I J Q := by
  obtain ⟨k1, k2, k3⟩ := id hU
  intro m
  induction m with
  | zero =>
    intro i h hq
    obtain rfl : i = 4 := (by omega)
    refine z_iload (pc := 5) dX3_productOf_5 rfl ?_
    refine z_aload_n (pc := 7) dX3_productOf_7 rfl rfl ?_
    refine z_getIv (pc := 8) dX3_productOf_8 f_RX3_18 (by assumption) rfl (by first | assumption | exact hA _ (by omega) | rfl) ?_
    first | refine z_icmp_geN (pc := 11) (tgt := 37) (by with_reducible rfl) (by with_reducible rfl) dX3_productOf_11 (by decide) (by omega) (by omega) (fun hb11 => ?_) (fun hb11 => absurd hb11 (by omega)) | refine z_icmp_ge (pc := 11) (tgt := 37) dX3_productOf_11 (by decide) (fun hb11 => ?_) (fun hb11 => absurd hb11 (by omega))
    · skip
      refine z_lload_n (pc := 37) dX3_productOf_37 rfl rfl ?_
      refine z_lret (pc := 38) dX3_productOf_38 rfl ?_
      exact hq
  | succ m ih =>
    intro i h hq
    have h2' := h2
    refine z_iload (pc := 5) dX3_productOf_5 rfl ?_
    refine z_aload_n (pc := 7) dX3_productOf_7 rfl rfl ?_
    refine z_getIv (pc := 8) dX3_productOf_8 f_RX3_18 (by assumption) rfl (by first | assumption | exact hA _ (by omega) | rfl) ?_
    first | refine z_icmp_geN (pc := 11) (tgt := 37) (by with_reducible rfl) (by with_reducible rfl) dX3_productOf_11 (by decide) (by omega) (by omega) (fun hb11 => absurd hb11 (by omega)) (fun hb11 => ?_) | refine z_icmp_ge (pc := 11) (tgt := 37) dX3_productOf_11 (by decide) (fun hb11 => absurd hb11 (by omega)) (fun hb11 => ?_)
    · skip
      refine z_lload_n (pc := 14) dX3_productOf_14 rfl rfl ?_
      refine z_ldc2 (pc := 15) (v := -9223372036854775808) dX3_productOf_15 q_RX3_34 ?_
      refine z_lc_eq (pc := 18) (tgt := 31) dX3_productOf_18 rfl dX3_productOf_19 (by decide) (fun hb18 => ?_) (fun hb18 => absurd hb18 (fun q => q rfl))
      · skip
        first | refine z_iincN (pc := 31) (c := 1) dX3_productOf_31 rfl (by with_reducible rfl) (by decide) (by decide) rfl ?_ | refine z_iinc (pc := 31) dX3_productOf_31 rfl rfl (by decide) rfl ?_
        try dsimp only [zst1, zst2, zk]
        refine z_goto (pc := 34) (tgt := 5) dX3_productOf_34 (by decide) ?_
        exact ih (i + 1) (by omega) hq
set_option maxHeartbeats 2000000 in
set_option maxRecDepth 20000 in
theorem l_X3_productOf {lay : List zL} {Q : Value → zI → zJ → Prop} {I : zI} {J : zJ} {d u b : Nat} {A : Nat → Nat} (hU : kU lay u) (h2 : I u 2 = nI 4) (hl : lay[b]? = some (.inr (.inr (.inl 4)))) (hA : ∀ k, k < 4 → J b k = lN (A k)) (hb : ∀ k, k < 4 → A k ≤ 999999) : ∀ (m i x : Nat), i + m = 4 → x ≤ 9223372036854775807 → Q (.long (zpl4 (zpr A m i x))) I J → Z lay MX3_productOf (d + 1) 5 [.ref u, .ref b, .long (lN x), .null, .int (nI i)] [] I J Q := by
  have hU' := hU
  obtain ⟨k1, k2, k3⟩ := hU
  intro m
  induction m with
  | zero =>
    intro i x h hx hq
    obtain rfl : i = 4 := (by omega)
    refine z_iload (pc := 5) dX3_productOf_5 rfl ?_
    refine z_aload_n (pc := 7) dX3_productOf_7 rfl rfl ?_
    refine z_getIv (pc := 8) dX3_productOf_8 f_RX3_18 (by assumption) rfl (by first | assumption | exact hA _ (by omega) | rfl) ?_
    first | refine z_icmp_geN (pc := 11) (tgt := 37) (by with_reducible rfl) (by with_reducible rfl) dX3_productOf_11 (by decide) (by omega) (by omega) (fun hb11 => ?_) (fun hb11 => absurd hb11 (by omega)) | refine z_icmp_ge (pc := 11) (tgt := 37) dX3_productOf_11 (by decide) (fun hb11 => ?_) (fun hb11 => absurd hb11 (by omega))
    · skip
      refine z_lload_n (pc := 37) dX3_productOf_37 rfl rfl ?_
      refine z_lret (pc := 38) dX3_productOf_38 rfl ?_
      exact hq
  | succ m ih =>
    intro i x h hx hq
    have h2' := h2
    have hbi := hb i (by omega)
    refine z_iload (pc := 5) dX3_productOf_5 rfl ?_
    refine z_aload_n (pc := 7) dX3_productOf_7 rfl rfl ?_
    refine z_getIv (pc := 8) dX3_productOf_8 f_RX3_18 (by assumption) rfl (by first | assumption | exact hA _ (by omega) | rfl) ?_
    first | refine z_icmp_geN (pc := 11) (tgt := 37) (by with_reducible rfl) (by with_reducible rfl) dX3_productOf_11 (by decide) (by omega) (by omega) (fun hb11 => absurd hb11 (by omega)) (fun hb11 => ?_) | refine z_icmp_ge (pc := 11) (tgt := 37) dX3_productOf_11 (by decide) (fun hb11 => absurd hb11 (by omega)) (fun hb11 => ?_)
    · skip
      refine z_lload_n (pc := 14) dX3_productOf_14 rfl rfl ?_
      refine z_ldc2 (pc := 15) (v := -9223372036854775808) dX3_productOf_15 q_RX3_34 ?_
      refine z_lc_eq (pc := 18) (tgt := 31) dX3_productOf_18 rfl dX3_productOf_19 (by decide) (fun hb18 => absurd hb18 (lN_no (by omega))) (fun hb18 => ?_)
      · skip
        refine z_lload_n (pc := 22) dX3_productOf_22 rfl rfl ?_
        refine z_aload_n (pc := 23) dX3_productOf_23 rfl rfl ?_
        refine z_iload (pc := 24) dX3_productOf_24 rfl ?_
        refine z_laloadv (pc := 26) dX3_productOf_26 (by assumption) (by with_reducible rfl) (by omega) (by decide) (by first | assumption | exact hA _ (by omega) | rfl) ?_
        refine z_callS (pc := 27) (c_X0_product (by omega) (by omega)) dX3_productOf_27 l_RX3_49 m_MX0_product s_MX0_product rfl (by omega) rfl (Nat.le_of_ble_eq_true rfl) ?_
        rintro _ _ _ ⟨⟨rfl, hp⟩ | ⟨rfl, hp⟩, rfl, rfl⟩
        · skip
          try dsimp only [zov, Option.toList, List.cons_append, List.nil_append]
          refine z_lstore_n (pc := 30) dX3_productOf_30 rfl (by decide) rfl ?_
          try dsimp only [zst1, zst2, zk]
          first | refine z_iincN (pc := 31) (c := 1) dX3_productOf_31 rfl (by with_reducible rfl) (by decide) (by decide) rfl ?_ | refine z_iinc (pc := 31) dX3_productOf_31 rfl rfl (by decide) rfl ?_
          try dsimp only [zst1, zst2, zk]
          refine z_goto (pc := 34) (tgt := 5) dX3_productOf_34 (by decide) ?_
          first
            | exact l_X3_productNo hU' h2 hl hA hb m (i + 1) (by omega) (by unfold zpr at hq; rw [if_neg (by omega)] at hq; exact hq)
            | exact ih (i + 1) _ (by omega) (by omega) (by unfold zpr at hq; rw [if_pos (by omega)] at hq; exact hq)
            | fail
        · skip
          try dsimp only [zov, Option.toList, List.cons_append, List.nil_append]
          refine z_lstore_n (pc := 30) dX3_productOf_30 rfl (by decide) rfl ?_
          try dsimp only [zst1, zst2, zk]
          first | refine z_iincN (pc := 31) (c := 1) dX3_productOf_31 rfl (by with_reducible rfl) (by decide) (by decide) rfl ?_ | refine z_iinc (pc := 31) dX3_productOf_31 rfl rfl (by decide) rfl ?_
          try dsimp only [zst1, zst2, zk]
          refine z_goto (pc := 34) (tgt := 5) dX3_productOf_34 (by decide) ?_
          first
            | exact l_X3_productNo hU' h2 hl hA hb m (i + 1) (by omega) (by unfold zpr at hq; rw [if_neg (by omega)] at hq; exact hq)
            | exact ih (i + 1) _ (by omega) (by omega) (by unfold zpr at hq; rw [if_pos (by omega)] at hq; exact hq)
            | fail
set_option maxHeartbeats 2000000 in
set_option maxRecDepth 20000 in
theorem c_X3_productOf {lay : List zL} {I : zI} {J : zJ} {u b : Nat} {A : Nat → Nat} (hU : kU lay u) (h2 : I u 2 = nI 4) (hl : lay[b]? = some (.inr (.inr (.inl 4)))) (hA : ∀ k, k < 4 → J b k = lN (A k)) (hb : ∀ k, k < 4 → A k ≤ 999999) : zMet lay MX3_productOf 1 [.ref u, .ref b] I J (fun r I' J' => r = .long (zpl4 (zpr A 4 0 1)) ∧ I = I' ∧ J = J') := by
  refine zMet_of (t := MX3_productOf) (ls := [.ref u, .ref b, .null, .null, .null]) (by decide +kernel) (Nat.le_of_ble_eq_true rfl) rfl ?_
  refine z_lconst (pc := 0) (v := lN 1) dX3_productOf_0 rfl ?_
  refine z_lstore_n (pc := 1) dX3_productOf_1 rfl (by decide) rfl ?_
  try dsimp only [zst1, zst2, zk]
  refine z_iconst (pc := 2) (v := nI 0) dX3_productOf_2 (by decide) ?_
  refine z_istore (pc := 3) dX3_productOf_3 (by decide) rfl ?_
  try dsimp only [zst1, zst2, zk]
  exact l_X3_productOf hU h2 hl hA hb 4 0 1 rfl (by omega) ⟨rfl, rfl, rfl⟩
/-- a part of four numbers over four -/
def zcro (z : Nat) (p : (Nat → Nat) × (Nat → Nat)) (part : Nat) : Int64 := if z = 0 then (match zpr (zcanf 16 0 p).1 4 0 1, zpr (zcanf 16 0 p).2 4 0 1 with
  | some x, some y => if part = 0 then lN x else lN y
  | _, _ => -9223372036854775808) else -9223372036854775808
theorem zpr_le {A : Nat → Nat} : ∀ (m i x y : Nat), x ≤ 9223372036854775807 → zpr A m i x = some y → y ≤ 9223372036854775807
  | 0, _, x, y, h, e => by cases e; exact h
  | m + 1, i, x, y, h, e => by
    unfold zpr at e
    split at e
    · rename_i h1; exact zpr_le m (i + 1) _ y h1 e
    · cases e
theorem zcro_n {p : (Nat → Nat) × (Nat → Nat)} {part : Nat} (h : zpl4 (zpr (zcanf 16 0 p).1 4 0 1) = -9223372036854775808 ∨ zpl4 (zpr (zcanf 16 0 p).2 4 0 1) = -9223372036854775808) : zcro 0 p part = -9223372036854775808 := by
  rw [zcro, if_pos rfl]
  cases e1 : zpr (zcanf 16 0 p).1 4 0 1 with
  | none => rfl
  | some x =>
    cases e2 : zpr (zcanf 16 0 p).2 4 0 1 with
    | none => rfl
    | some y =>
      rw [e1, e2] at h
      have l1 := zpr_le _ _ _ _ (by omega) e1
      have l2 := zpr_le _ _ _ _ (by omega) e2
      rcases h with h | h
      · exact absurd h (lN_no (by omega))
      · exact absurd h (lN_no (by omega))
theorem zcro_y {p : (Nat → Nat) × (Nat → Nat)} {part : Nat} (h1 : ¬ zpl4 (zpr (zcanf 16 0 p).1 4 0 1) = -9223372036854775808) (h2 : ¬ zpl4 (zpr (zcanf 16 0 p).2 4 0 1) = -9223372036854775808) : zcro 0 p part = if part = 0 then zpl4 (zpr (zcanf 16 0 p).1 4 0 1) else zpl4 (zpr (zcanf 16 0 p).2 4 0 1) := by
  rw [zcro, if_pos rfl]
  cases e1 : zpr (zcanf 16 0 p).1 4 0 1 with
  | none => rw [e1] at h1; exact absurd rfl h1
  | some x =>
    cases e2 : zpr (zcanf 16 0 p).2 4 0 1 with
    | none => rw [e2] at h2; exact absurd rfl h2
    | some y => rfl
set_option maxHeartbeats 2000000 in
set_option maxRecDepth 20000 in
theorem c_X3_partOf {lay : List zL} {I : zI} {J : zJ} {u z : Nat} {p : (Nat → Nat) × (Nat → Nat)} {part : Nat} (hU : kU lay u) (h2 : I u 2 = nI 4) (h3 : I u 3 = nI z) (hz : z ≤ 1) (hA : ∀ k, k < 4 → J (u + 1) k = lN (p.1 k)) (hB : ∀ k, k < 4 → J (u + 2) k = lN (p.2 k)) (hb : z = 0 → zcB p) (hp : part ≤ 1) : zMet lay MX3_partOf 2 [.ref u, .int (nI part)] I J (fun r I' J' => r = .long (zcro z p part) ∧ I = I' ∧ ∀ x, x ≠ u + 1 → x ≠ u + 2 → J' x = J x) := by
  refine zMet_of (t := MX3_partOf) (ls := [.ref u, .int (nI part), .null, .null, .null, .null]) (by decide +kernel) (Nat.le_of_ble_eq_true rfl) rfl ?_
  obtain ⟨k1, k2, k3⟩ := id hU
  refine z_aload_n (pc := 0) dX3_partOf_0 rfl rfl ?_
  refine z_getIv (pc := 1) dX3_partOf_1 f_RX3_22 (by assumption) rfl (by first | assumption | rfl) ?_
  first | refine z_if_eqN (pc := 4) (tgt := 11) (by with_reducible rfl) dX3_partOf_4 (by decide) (by omega) (fun hb4 => ?_) (fun hb4 => ?_) | refine z_if_eq (pc := 4) (tgt := 11) dX3_partOf_4 (by decide) (fun hb4 => ?_) (fun hb4 => ?_)
  · skip
    refine z_aload_n (pc := 11) dX3_partOf_11 rfl rfl ?_
    refine z_callV (pc := 12) (c_X3_cancel hU h2 hA hB (hb hb4)) dX3_partOf_12 l_RX3_36 m_MX3_cancel n_MX3_cancel e_MX3_cancel rfl (by omega) (by assumption) rfl rfl (Nat.le_of_ble_eq_true rfl) ?_
    rintro _ _ _ (⟨rfl, rfl, hh⟩)
    have hc := zcanf_B 16 0 p (by omega) (hb hb4)
    subst hb4
    try dsimp only [zov, Option.toList, List.cons_append, List.nil_append]
    refine z_aload_n (pc := 15) dX3_partOf_15 rfl rfl ?_
    refine z_aload_n (pc := 16) dX3_partOf_16 rfl rfl ?_
    refine z_getR (pc := 17) dX3_partOf_17 f_RX3_11 (by assumption) rfl ?_
    refine z_callV (pc := 20) (c_X3_productOf hU h2 k2 hh.1 hc.1) dX3_partOf_20 l_RX3_39 m_MX3_productOf n_MX3_productOf e_MX3_productOf rfl (by omega) (by assumption) rfl rfl (Nat.le_of_ble_eq_true rfl) ?_
    rintro _ _ _ (⟨rfl, rfl, rfl⟩)
    try dsimp only [zov, Option.toList, List.cons_append, List.nil_append]
    refine z_lstore_n (pc := 23) dX3_partOf_23 rfl (by decide) rfl ?_
    try dsimp only [zst1, zst2, zk]
    refine z_aload_n (pc := 24) dX3_partOf_24 rfl rfl ?_
    refine z_aload_n (pc := 25) dX3_partOf_25 rfl rfl ?_
    refine z_getR (pc := 26) dX3_partOf_26 f_RX3_15 (by assumption) rfl ?_
    refine z_callV (pc := 29) (c_X3_productOf hU h2 k3 hh.2.1 (fun k hk => (hc.2 k hk).2)) dX3_partOf_29 l_RX3_39 m_MX3_productOf n_MX3_productOf e_MX3_productOf rfl (by omega) (by assumption) rfl rfl (Nat.le_of_ble_eq_true rfl) ?_
    rintro _ _ _ (⟨rfl, rfl, rfl⟩)
    try dsimp only [zov, Option.toList, List.cons_append, List.nil_append]
    refine z_lstore (pc := 32) dX3_partOf_32 (by decide) rfl ?_
    try dsimp only [zst1, zst2, zk]
    refine z_lload_n (pc := 34) dX3_partOf_34 rfl rfl ?_
    refine z_ldc2 (pc := 35) (v := -9223372036854775808) dX3_partOf_35 q_RX3_34 ?_
    refine z_lc_eq (pc := 38) (tgt := 51) dX3_partOf_38 rfl dX3_partOf_39 (by decide) (fun hb38 => ?_) (fun hb38 => ?_)
    · skip
      refine z_ldc2 (pc := 51) (v := -9223372036854775808) dX3_partOf_51 q_RX3_34 ?_
      refine z_lret (pc := 54) dX3_partOf_54 rfl ?_
      first
        | exact ⟨by rw [zcro, if_neg hb4], rfl, fun _ _ _ => rfl⟩
        | exact ⟨by rw [zcro_n (Or.inl hb38)], rfl, hh.2.2⟩
        | exact ⟨by rw [zcro_n (Or.inr hb47)], rfl, hh.2.2⟩
        | exact ⟨by rw [zcro_y hb38 hb47, if_pos hb56], rfl, hh.2.2⟩
        | exact ⟨by rw [zcro_y hb38 hb47, if_neg hb56], rfl, hh.2.2⟩
        | fail
    · skip
      refine z_lload (pc := 42) dX3_partOf_42 rfl ?_
      refine z_ldc2 (pc := 44) (v := -9223372036854775808) dX3_partOf_44 q_RX3_34 ?_
      refine z_lc_ne (pc := 47) (tgt := 55) dX3_partOf_47 rfl dX3_partOf_48 (by decide) (fun hb47 => ?_) (fun hb47 => ?_)
      · skip
        refine z_iload_n (pc := 55) dX3_partOf_55 rfl rfl ?_
        first | refine z_if_neN (pc := 56) (tgt := 63) (by with_reducible rfl) dX3_partOf_56 (by decide) (by omega) (fun hb56 => ?_) (fun hb56 => ?_) | refine z_if_ne (pc := 56) (tgt := 63) dX3_partOf_56 (by decide) (fun hb56 => ?_) (fun hb56 => ?_)
        · skip
          refine z_lload (pc := 63) dX3_partOf_63 rfl ?_
          refine z_lret (pc := 65) dX3_partOf_65 rfl ?_
          first
            | exact ⟨by rw [zcro, if_neg hb4], rfl, fun _ _ _ => rfl⟩
            | exact ⟨by rw [zcro_n (Or.inl hb38)], rfl, hh.2.2⟩
            | exact ⟨by rw [zcro_n (Or.inr hb47)], rfl, hh.2.2⟩
            | exact ⟨by rw [zcro_y hb38 hb47, if_pos hb56], rfl, hh.2.2⟩
            | exact ⟨by rw [zcro_y hb38 hb47, if_neg hb56], rfl, hh.2.2⟩
            | fail
        · skip
          refine z_lload_n (pc := 59) dX3_partOf_59 rfl rfl ?_
          refine z_goto (pc := 60) (tgt := 65) dX3_partOf_60 (by decide) ?_
          refine z_lret (pc := 65) dX3_partOf_65 rfl ?_
          first
            | exact ⟨by rw [zcro, if_neg hb4], rfl, fun _ _ _ => rfl⟩
            | exact ⟨by rw [zcro_n (Or.inl hb38)], rfl, hh.2.2⟩
            | exact ⟨by rw [zcro_n (Or.inr hb47)], rfl, hh.2.2⟩
            | exact ⟨by rw [zcro_y hb38 hb47, if_pos hb56], rfl, hh.2.2⟩
            | exact ⟨by rw [zcro_y hb38 hb47, if_neg hb56], rfl, hh.2.2⟩
            | fail
      · skip
        refine z_ldc2 (pc := 51) (v := -9223372036854775808) dX3_partOf_51 q_RX3_34 ?_
        refine z_lret (pc := 54) dX3_partOf_54 rfl ?_
        first
          | exact ⟨by rw [zcro, if_neg hb4], rfl, fun _ _ _ => rfl⟩
          | exact ⟨by rw [zcro_n (Or.inl hb38)], rfl, hh.2.2⟩
          | exact ⟨by rw [zcro_n (Or.inr hb47)], rfl, hh.2.2⟩
          | exact ⟨by rw [zcro_y hb38 hb47, if_pos hb56], rfl, hh.2.2⟩
          | exact ⟨by rw [zcro_y hb38 hb47, if_neg hb56], rfl, hh.2.2⟩
          | fail
  · skip
    refine z_ldc2 (pc := 7) (v := -9223372036854775808) dX3_partOf_7 q_RX3_34 ?_
    refine z_lret (pc := 10) dX3_partOf_10 rfl ?_
    first
      | exact ⟨by rw [zcro, if_neg hb4], rfl, fun _ _ _ => rfl⟩
      | exact ⟨by rw [zcro_n (Or.inl hb38)], rfl, hh.2.2⟩
      | exact ⟨by rw [zcro_n (Or.inr hb47)], rfl, hh.2.2⟩
      | exact ⟨by rw [zcro_y hb38 hb47, if_pos hb56], rfl, hh.2.2⟩
      | exact ⟨by rw [zcro_y hb38 hb47, if_neg hb56], rfl, hh.2.2⟩
      | fail
