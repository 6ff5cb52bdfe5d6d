/-! ===== the class's calls: reading ===== -/
theorem zrun_y {P : Nat → Bool} : ∀ (f k j : Nat), j < zrun P f k → P (k + j) = true
  | 0, _, _, h => absurd h (Nat.not_lt_zero _)
  | f + 1, k, j, h => by
    unfold zrun at h
    by_cases q : P k = true
    · rw [if_pos q] at h
      cases j with
      | zero => exact q
      | succ j =>
        have := zrun_y (P := P) f (k + 1) j (by omega)
        rw [show k + (j + 1) = k + 1 + j by omega]; exact this
    · rw [if_neg q] at h; exact absurd h (Nat.not_lt_zero _)
/-- a clause that stands: its kind, its digits, its end -/
def zkd (len : Nat) (tx : Nat → Nat) (a e : Nat) : Prop := a < len ∧ ((tx a = 115 ∧ zisb len tx (a + 1) = true ∧ zisb len tx (a + 2) = true ∧ e = a + 3) ∨ ((tx a = 110 ∨ tx a = 109) ∧ zisb len tx (a + 1) = true ∧ zisb len tx (a + 2) = true ∧ zisb len tx (a + 3) = true ∧ (e = a + 4 ∨ (e = a + 5 ∧ zisb len tx (a + 4) = true))) ∨ (tx a = 107 ∧ zisb len tx (a + 1) = true ∧ zisb len tx (a + 2) = true ∧ zisb len tx (a + 3) = true ∧ e = a + 4) ∨ (tx a = 120 ∧ e = a + 1))
theorem zce_kd {len : Nat} {tx : Nat → Nat} {a : Nat} (h : (zce len tx a).1 = true) : zkd len tx a (zce len tx a).2 := by
  unfold zce at h ⊢
  by_cases h1 : len ≤ a
  · rw [if_pos h1] at h; cases h
  rw [if_neg h1] at h ⊢
  refine ⟨by omega, ?_⟩
  by_cases h2 : tx a = 115
  · rw [if_pos h2] at h ⊢
    have h9 : 2 ≤ zrun (zisb len tx) 2 (a + 1) := of_decide_eq_true h
    have h8 := zrun_le (zisb len tx) 2 (a + 1)
    exact Or.inl ⟨h2, zrun_y 2 (a + 1) 0 (by omega), zrun_y 2 (a + 1) 1 (by omega), by show a + 1 + _ = _; omega⟩
  rw [if_neg h2] at h ⊢
  by_cases h3 : tx a = 110 ∨ tx a = 109
  · rw [if_pos h3] at h ⊢
    have h9 : 3 ≤ zrun (zisb len tx) 4 (a + 1) := of_decide_eq_true h
    have h8 := zrun_le (zisb len tx) 4 (a + 1)
    refine Or.inr (Or.inl ⟨h3, zrun_y 4 (a + 1) 0 (by omega), zrun_y 4 (a + 1) 1 (by omega), zrun_y 4 (a + 1) 2 (by omega), ?_⟩)
    by_cases q : zrun (zisb len tx) 4 (a + 1) = 3
    · exact Or.inl (by show a + 1 + _ = _; omega)
    · exact Or.inr ⟨by show a + 1 + _ = _; omega, zrun_y 4 (a + 1) 3 (by omega)⟩
  rw [if_neg h3] at h ⊢
  by_cases h4 : tx a = 107
  · rw [if_pos h4] at h ⊢
    have h9 : 3 ≤ zrun (zisb len tx) 3 (a + 1) := of_decide_eq_true h
    have h8 := zrun_le (zisb len tx) 3 (a + 1)
    exact Or.inr (Or.inr (Or.inl ⟨h4, zrun_y 3 (a + 1) 0 (by omega), zrun_y 3 (a + 1) 1 (by omega), zrun_y 3 (a + 1) 2 (by omega), by show a + 1 + _ = _; omega⟩))
  rw [if_neg h4] at h ⊢
  by_cases h5 : tx a = 120
  · rw [if_pos h5]; exact Or.inr (Or.inr (Or.inr ⟨h5, rfl⟩))
  · rw [if_neg h5] at h; cases h
theorem zisb_lt {len : Nat} {tx : Nat → Nat} {k : Nat} (h : zisb len tx k = true) : k < len ∧ 48 ≤ tx k ∧ tx k ≤ 57 := of_decide_eq_true h
theorem c_X5_digit_y {lay : List zL} {I : zI} {J : zJ} {a len : Nat} {tx : Nat → Nat} (hX : kX lay a) (hV : vX I a len tx) {p : Nat} (hp : p < 2147483648) (h : zisb len tx p = true) : zMet lay MX5_digit 1 [.ref a, .int (nI p)] I J (fun r I' J' => r = .int (nI (tx p - 48)) ∧ I = I' ∧ J = J') :=
  zMet_to (c_X5_digit hX hV hp) (fun r I' J' q => ⟨q.1.elim (fun q => q.1) (fun q => by rw [h] at q; exact absurd q.2 (by decide)), q.2⟩)
theorem c_X5_digit_a {lay : List zL} {I : zI} {J : zJ} {a len : Nat} {tx : Nat → Nat} (hX : kX lay a) (hV : vX I a len tx) {p : Nat} (hp : p < 2147483648) : zMet lay MX5_digit 1 [.ref a, .int (nI p)] I J (fun r I' J' => (∃ v, r = .int v) ∧ I = I' ∧ J = J') :=
  zMet_to (c_X5_digit hX hV hp) (fun r I' J' q => ⟨q.1.elim (fun q => ⟨_, q.1⟩) (fun q => ⟨_, q.1⟩), q.2⟩)
theorem c_X5_number_1 {lay : List zL} {I : zI} {J : zJ} {a len : Nat} {tx : Nat → Nat} (hX : kX lay a) (hV : vX I a len tx) {p e : Nat} (hp : p < 1000) (h : e ≤ p) : zMet lay MX5_number 2 [.ref a, .int (nI p), .int (nI e)] I J (fun r I' J' => r = .int (-1) ∧ I = I' ∧ J = J') :=
  zMet_to (c_X5_number hX hV hp (by omega) (fun k h1 h2 => absurd h2 (by omega))) (fun r I' J' q => ⟨by rcases q.1 with q | q | q; exact q.1; omega; omega, q.2⟩)
theorem c_X5_number_2 {lay : List zL} {I : zI} {J : zJ} {a len : Nat} {tx : Nat → Nat} (hX : kX lay a) (hV : vX I a len tx) {p e x : Nat} (hp : p < 1000) (h : (e = p + 1 ∧ zisb len tx p = true ∧ x = tx p - 48) ∨ (e = p + 2 ∧ zisb len tx p = true ∧ zisb len tx (p + 1) = true ∧ x = 10 * (tx p - 48) + (tx (p + 1) - 48))) : zMet lay MX5_number 2 [.ref a, .int (nI p), .int (nI e)] I J (fun r I' J' => r = .int (nI x) ∧ I = I' ∧ J = J') := by
  refine zMet_to (c_X5_number hX hV hp (by omega) (fun k h1 h2 => ?_)) (fun r I' J' q => ⟨?_, q.2⟩)
  · rcases h with h | h
    · rw [show k = p by omega]; exact h.2.1
    · by_cases q : k = p
      · rw [q]; exact h.2.1
      · rw [show k = p + 1 by omega]; exact h.2.2.1
  · rcases h with h | h
    · rcases q.1 with q | q | q
      · omega
      · rw [h.2.2]; exact q.1
      · omega
    · rcases q.1 with q | q | q
      · omega
      · omega
      · rw [h.2.2.2]; exact q.1
theorem c_X5_sign_y {lay : List zL} {I : zI} {J : zJ} {a len : Nat} {tx : Nat → Nat} (hX : kX lay a) (hV : vX I a len tx) {p s : Nat} (hp : p < 2147483648) (h : p < len) (hs : tx p = s) : zMet lay MX5_sign 0 [.ref a, .int (nI p)] I J (fun r I' J' => r = .int (nI s) ∧ I = I' ∧ J = J') :=
  zMet_to (c_X5_sign hX hV hp) (fun r I' J' q => ⟨q.1.elim (fun q => by rw [← hs]; exact q.1) (fun q => absurd q.2 (by omega)), q.2⟩)
theorem fsize_i {S : zS} {r c : Int32} : ∃ x, (fsize S r c).1 = .int x := by
  unfold fsize
  split
  · split <;> exact ⟨_, rfl⟩
  · exact ⟨_, rfl⟩
theorem ftell_i {S : zS} {i j v : Int32} : ∃ x, (ftell S i j v).1 = .int x := by
  unfold ftell
  split
  · exact ⟨_, rfl⟩
  · split <;> exact ⟨_, rfl⟩
theorem fmark_i {S : zS} {i j v : Int32} : ∃ x, (fmark S i j v).1 = .int x := by
  unfold fmark
  split
  · exact ⟨_, rfl⟩
  · split <;> exact ⟨_, rfl⟩
theorem fmargin_i {S : zS} {i j v : Int32} : ∃ x, (fmargin S i j v).1 = .int x := by
  unfold fmargin
  split
  · exact ⟨_, rfl⟩
  · split <;> exact ⟨_, rfl⟩
/-- the end of a clause -/
def zPD (I : zI) (J : zJ) (p : Value × zS) (r : Value) (I' : zI) (J' : zJ) : Prop := r = .int (nI (zge p.1)) ∧ vC I' J' p.2 ∧ (∀ x, 78 < x → I' x = I x) ∧ ∀ x, 78 < x → J' x = J x
theorem zPD_1 {I I' : zI} {J J' : zJ} {p : Value × zS} {x : Int32} (h : zPC I J p (.int x) I' J') (hx : 0 ≤ x) : zPD I J p (.int (nI 1)) I' J' := by
  obtain ⟨h1, h2⟩ := h
  exact ⟨by rw [← h1]; show _ = Value.int (nI (if 0 ≤ x then 1 else 0)); rw [if_pos hx], h2⟩
theorem zPD_0 {I I' : zI} {J J' : zJ} {p : Value × zS} {x : Int32} (h : zPC I J p (.int x) I' J') (hx : x < 0) : zPD I J p (.int (nI 0)) I' J' := by
  obtain ⟨h1, h2⟩ := h
  exact ⟨by rw [← h1]; show _ = Value.int (nI (if 0 ≤ x then 1 else 0)); rw [if_neg (Int32.not_le.mpr hx)], h2⟩
theorem zdoes_s {S : zS} {a e : Nat} (h : S.tx a = 115) : zdoes S (zcl S.tx a e) = fsize S (nI (S.tx (a + 1) - 48)) (nI (S.tx (a + 2) - 48)) := if_pos h
theorem zdoes_n {S : zS} {a e : Nat} (h : S.tx a = 110) : zdoes S (zcl S.tx a e) = ftell S (nI (S.tx (a + 1) - 48)) (nI (S.tx (a + 2) - 48)) (nI (if e = a + 4 then S.tx (a + 3) - 48 else 10 * (S.tx (a + 3) - 48) + (S.tx (a + 4) - 48))) := by
  unfold zdoes
  rw [if_neg (by show ¬ S.tx a = 115; omega), if_pos (show (zcl S.tx a e).1 = 110 from h)]
  rfl
theorem zdoes_k {S : zS} {a e : Nat} (h : S.tx a = 107) : zdoes S (zcl S.tx a e) = fmark S (nI (S.tx (a + 1) - 48)) (nI (S.tx (a + 2) - 48)) (nI (if e = a + 4 then S.tx (a + 3) - 48 else 10 * (S.tx (a + 3) - 48) + (S.tx (a + 4) - 48))) := by
  unfold zdoes
  rw [if_neg (by show ¬ S.tx a = 115; omega), if_neg (by show ¬ S.tx a = 110; omega), if_pos (show (zcl S.tx a e).1 = 107 from h)]
  rfl
theorem zdoes_m {S : zS} {a e : Nat} (h : S.tx a = 109) : zdoes S (zcl S.tx a e) = fmargin S (nI (S.tx (a + 1) - 48)) (nI (S.tx (a + 2) - 48)) (nI (if e = a + 4 then S.tx (a + 3) - 48 else 10 * (S.tx (a + 3) - 48) + (S.tx (a + 4) - 48))) := by
  unfold zdoes
  rw [if_neg (by show ¬ S.tx a = 115; omega), if_neg (by show ¬ S.tx a = 110; omega), if_neg (by show ¬ S.tx a = 107; omega), if_pos (show (zcl S.tx a e).1 = 109 from h)]
  rfl
theorem zdoes_x {S : zS} {a e : Nat} (h : S.tx a = 120) : zdoes S (zcl S.tx a e) = fthree S (1 - S.n 2) := by
  unfold zdoes
  rw [if_neg (by show ¬ S.tx a = 115; omega), if_neg (by show ¬ S.tx a = 110; omega), if_neg (by show ¬ S.tx a = 107; omega), if_neg (by show ¬ S.tx a = 109; omega)]
theorem nI_le0 {n : Nat} (h : n < 2147483648) : 0 ≤ nI n := Int32.not_lt.mp (nI_pos h)
set_option maxHeartbeats 2000000 in
set_option maxRecDepth 20000 in
theorem c_X9_isClauseDone {lay : List zL} {I : zI} {J : zJ} {S : zS} (hC : kC lay) (hV : vC I J S) {a e : Nat} (hkd : zkd S.len S.tx a e) : zMet lay MX9_isClauseDone 4 [.ref 0, .int (nI a), .int (nI e)] I J (fun r I' J' => zPD I J (zdoes S (zcl S.tx a e)) r I' J') := by
  refine zMet_of (t := MX9_isClauseDone) (ls := [.ref 0, .int (nI a), .int (nI e), .null, .null, .null]) (by decide +kernel) (Nat.le_of_ble_eq_true rfl) rfl ?_
  obtain ⟨c0, ⟨cP, cG⟩, ⟨cX, cQ, cR⟩, ⟨cS, cB, cD⟩, cf1, cf2, cf3, cU⟩ := id hC
  have p0 : lay[1]? = some (.inl (2, [4, 8, 13, 16, 19])) := cP.1
  have s0 : kS lay 2 := cP.2.1
  obtain ⟨s1, s2, s3, s4⟩ := id s0
  have t0 : kT lay 6 := cP.2.2.1
  obtain ⟨t1, t2, t3, t4, t5⟩ := id t0
  have n5 : kN lay 11 5 := cP.2.2.2.1
  have n8 : kN lay 14 8 := cP.2.2.2.2.1
  have m8 : kN lay 17 8 := cP.2.2.2.2.2
  have w0 : vS I 2 S.n := hV.1.1.1
  have w1 : vT I J 6 S.n := hV.1.1.2.1
  have w5 : vN I 11 5 (S.n 4) (fun k => S.n (52 + k) / 100) (fun k => S.n (52 + k) % 100) := hV.1.1.2.2.1
  have w8 : vN I 14 8 (S.n 5) (fun k => S.n (57 + k) / 100) (fun k => S.n (57 + k) % 100) := hV.1.1.2.2.2.1
  have x8 : vN I 17 8 (S.n 6) (fun k => S.n (65 + k) / 100) (fun k => S.n (65 + k) % 100) := hV.1.1.2.2.2.2
  obtain ⟨v0, v1, v2, v3, v4, v5⟩ := id w0
  obtain ⟨y0, y1, y2⟩ := id w1
  have hbN := hV.1.2
  have hB := hbN.1
  have hT := hbN.2.1
  obtain ⟨b1, b2, b3, b4, b5, b6, b7, b8⟩ := id hB
  have ox := cX.1
  have oq := cQ.1
  have ow := cR.1
  have od := cD.1
  have oe := cB.1
  have of1 := cS.1
  have of2 := cS.2.1
  have ou := cU.1
  have og := cG.1
  have on5 := n5.1
  have on8 := n8.1
  have om8 := m8.1
  have ov := cR.2.1.1
  have z1 := cf1
  have z2 := cf2
  have z3 := cf3
  unfold kF at z1 z2 z3
  have h100 := hV.2.2.2.1.2.1
  obtain ⟨hlt, hkd⟩ := hkd
  rcases hkd with ⟨hk, hd1, hd2, he⟩ | ⟨hk, hd1, hd2, hd3, he⟩ | ⟨hk, hd1, hd2, hd3, he⟩ | ⟨hk, he⟩
  · skip
    refine z_aload_n (pc := 0) dX9_isClauseDone_0 rfl rfl ?_
    refine z_getR (pc := 1) dX9_isClauseDone_1 f_RX9_24 (by assumption) rfl ?_
    refine z_iload_n (pc := 4) dX9_isClauseDone_4 rfl rfl ?_
    refine z_iconst (pc := 5) (v := nI 1) dX9_isClauseDone_5 (by decide) ?_
    first | refine z_iaddN (pc := 6) (by with_reducible rfl) (by with_reducible rfl) dX9_isClauseDone_6 ?_ | refine z_iadd (pc := 6) dX9_isClauseDone_6 ?_
    refine z_callV (pc := 7) (c_X5_digit_y cX (show vX I 67 S.len S.tx from hV.2.2.2.1) (by omega) hd1) dX9_isClauseDone_7 l_RX9_146 m_MX5_digit n_MX5_digit e_MX5_digit rfl (by omega) (by assumption) rfl rfl (Nat.le_of_ble_eq_true rfl) ?_
    rintro _ _ _ (⟨rfl, rfl, rfl⟩)
    try dsimp only [zov, Option.toList, List.cons_append, List.nil_append]
    refine z_istore_n (pc := 10) dX9_isClauseDone_10 rfl (by decide) rfl ?_
    try dsimp only [zst1, zst2, zk]
    refine z_aload_n (pc := 11) dX9_isClauseDone_11 rfl rfl ?_
    refine z_getR (pc := 12) dX9_isClauseDone_12 f_RX9_24 (by assumption) rfl ?_
    refine z_iload_n (pc := 15) dX9_isClauseDone_15 rfl rfl ?_
    refine z_iconst (pc := 16) (v := nI 2) dX9_isClauseDone_16 (by decide) ?_
    first | refine z_iaddN (pc := 17) (by with_reducible rfl) (by with_reducible rfl) dX9_isClauseDone_17 ?_ | refine z_iadd (pc := 17) dX9_isClauseDone_17 ?_
    refine z_callV (pc := 18) (c_X5_digit_y cX (show vX I 67 S.len S.tx from hV.2.2.2.1) (by omega) hd2) dX9_isClauseDone_18 l_RX9_146 m_MX5_digit n_MX5_digit e_MX5_digit rfl (by omega) (by assumption) rfl rfl (Nat.le_of_ble_eq_true rfl) ?_
    rintro _ _ _ (⟨rfl, rfl, rfl⟩)
    try dsimp only [zov, Option.toList, List.cons_append, List.nil_append]
    refine z_istore (pc := 21) dX9_isClauseDone_21 (by decide) rfl ?_
    try dsimp only [zst1, zst2, zk]
    refine z_aload_n (pc := 23) dX9_isClauseDone_23 rfl rfl ?_
    refine z_getR (pc := 24) dX9_isClauseDone_24 f_RX9_24 (by assumption) rfl ?_
    refine z_iload_n (pc := 27) dX9_isClauseDone_27 rfl rfl ?_
    refine z_iconst (pc := 28) (v := nI 3) dX9_isClauseDone_28 (by decide) ?_
    first | refine z_iaddN (pc := 29) (by with_reducible rfl) (by with_reducible rfl) dX9_isClauseDone_29 ?_ | refine z_iadd (pc := 29) dX9_isClauseDone_29 ?_
    refine z_iload_n (pc := 30) dX9_isClauseDone_30 rfl rfl ?_
    refine z_callV (pc := 31) (c_X5_number_1 cX (show vX I 67 S.len S.tx from hV.2.2.2.1) (by omega) (by omega)) dX9_isClauseDone_31 l_RX9_149 m_MX5_number n_MX5_number e_MX5_number rfl (by omega) (by assumption) rfl rfl (Nat.le_of_ble_eq_true rfl) ?_
    rintro _ _ _ (⟨rfl, rfl, rfl⟩)
    try dsimp only [zov, Option.toList, List.cons_append, List.nil_append]
    refine z_istore (pc := 34) dX9_isClauseDone_34 (by decide) rfl ?_
    try dsimp only [zst1, zst2, zk]
    refine z_aload_n (pc := 36) dX9_isClauseDone_36 rfl rfl ?_
    refine z_getR (pc := 37) dX9_isClauseDone_37 f_RX9_24 (by assumption) rfl ?_
    refine z_iload_n (pc := 40) dX9_isClauseDone_40 rfl rfl ?_
    refine z_callV (pc := 41) (c_X5_sign_y cX (show vX I 67 S.len S.tx from hV.2.2.2.1) (by omega) hlt hk) dX9_isClauseDone_41 l_RX9_152 m_MX5_sign n_MX5_sign e_MX5_sign rfl (by omega) (by assumption) rfl rfl (Nat.le_of_ble_eq_true rfl) ?_
    rintro _ _ _ (⟨rfl, rfl, rfl⟩)
    try dsimp only [zov, Option.toList, List.cons_append, List.nil_append]
    refine z_tableIn (pc := 44) (off := 72) (tgt := 116) dX9_isClauseDone_44 (by decide) (by decide) (by decide) (by decide) ?_
    refine z_aload_n (pc := 116) dX9_isClauseDone_116 rfl rfl ?_
    refine z_iload_n (pc := 117) dX9_isClauseDone_117 rfl rfl ?_
    refine z_iload (pc := 118) dX9_isClauseDone_118 rfl ?_
    refine z_callV (pc := 120) (c_X9_size hC hV) dX9_isClauseDone_120 l_RX9_155 m_MX9_size n_MX9_size e_MX9_size rfl (by omega) (by assumption) rfl rfl (Nat.le_of_ble_eq_true rfl) ?_
    rintro _ _ _ (hp)
    obtain ⟨x9, e9⟩ := fsize_i (S := S) (r := nI (S.tx (a + 1) - 48)) (c := nI (S.tx (a + 2) - 48))
    obtain rfl := hp.1.trans e9
    try dsimp only [zov, Option.toList, List.cons_append, List.nil_append]
    first | refine z_if_ltN (pc := 123) (tgt := 130) (by with_reducible rfl) dX9_isClauseDone_123 (by decide) (by omega) (fun hb123 => ?_) (fun hb123 => ?_) | refine z_if_lt (pc := 123) (tgt := 130) dX9_isClauseDone_123 (by decide) (fun hb123 => ?_) (fun hb123 => ?_)
    · skip
      refine z_iconst (pc := 130) (v := nI 0) dX9_isClauseDone_130 (by decide) ?_
      refine z_zret (pc := 131) dX9_isClauseDone_131 rfl (by first | decide | assumption) ?_
      first
      | (rw [zdoes_s hk]; exact zPD_1 hp (by assumption))
      | (rw [zdoes_s hk]; exact zPD_1 hp (Int32.not_lt.mp (by assumption)))
      | (rw [zdoes_s hk]; exact zPD_0 hp (by assumption))
      | (rw [zdoes_s hk]; exact zPD_0 hp (Int32.not_le.mp (by assumption)))
      | fail
    · skip
      refine z_iconst (pc := 126) (v := nI 1) dX9_isClauseDone_126 (by decide) ?_
      refine z_goto (pc := 127) (tgt := 131) dX9_isClauseDone_127 (by decide) ?_
      refine z_zret (pc := 131) dX9_isClauseDone_131 rfl (by first | decide | assumption) ?_
      first
      | (rw [zdoes_s hk]; exact zPD_1 hp (by assumption))
      | (rw [zdoes_s hk]; exact zPD_1 hp (Int32.not_lt.mp (by assumption)))
      | (rw [zdoes_s hk]; exact zPD_0 hp (by assumption))
      | (rw [zdoes_s hk]; exact zPD_0 hp (Int32.not_le.mp (by assumption)))
      | fail
  · rcases hk with hk | hk
    · skip
      have hnb : (e = a + 3 + 1 ∧ zisb S.len S.tx (a + 3) = true ∧ (if e = a + 4 then S.tx (a + 3) - 48 else 10 * (S.tx (a + 3) - 48) + (S.tx (a + 4) - 48)) = S.tx (a + 3) - 48) ∨ (e = a + 3 + 2 ∧ zisb S.len S.tx (a + 3) = true ∧ zisb S.len S.tx (a + 3 + 1) = true ∧ (if e = a + 4 then S.tx (a + 3) - 48 else 10 * (S.tx (a + 3) - 48) + (S.tx (a + 4) - 48)) = 10 * (S.tx (a + 3) - 48) + (S.tx (a + 3 + 1) - 48)) := by
        rcases he with he | he
        · exact Or.inl ⟨by omega, hd3, if_pos he⟩
        · exact Or.inr ⟨by omega, hd3, he.2, if_neg (by omega)⟩
      refine z_aload_n (pc := 0) dX9_isClauseDone_0 rfl rfl ?_
      refine z_getR (pc := 1) dX9_isClauseDone_1 f_RX9_24 (by assumption) rfl ?_
      refine z_iload_n (pc := 4) dX9_isClauseDone_4 rfl rfl ?_
      refine z_iconst (pc := 5) (v := nI 1) dX9_isClauseDone_5 (by decide) ?_
      first | refine z_iaddN (pc := 6) (by with_reducible rfl) (by with_reducible rfl) dX9_isClauseDone_6 ?_ | refine z_iadd (pc := 6) dX9_isClauseDone_6 ?_
      refine z_callV (pc := 7) (c_X5_digit_y cX (show vX I 67 S.len S.tx from hV.2.2.2.1) (by omega) hd1) dX9_isClauseDone_7 l_RX9_146 m_MX5_digit n_MX5_digit e_MX5_digit rfl (by omega) (by assumption) rfl rfl (Nat.le_of_ble_eq_true rfl) ?_
      rintro _ _ _ (⟨rfl, rfl, rfl⟩)
      try dsimp only [zov, Option.toList, List.cons_append, List.nil_append]
      refine z_istore_n (pc := 10) dX9_isClauseDone_10 rfl (by decide) rfl ?_
      try dsimp only [zst1, zst2, zk]
      refine z_aload_n (pc := 11) dX9_isClauseDone_11 rfl rfl ?_
      refine z_getR (pc := 12) dX9_isClauseDone_12 f_RX9_24 (by assumption) rfl ?_
      refine z_iload_n (pc := 15) dX9_isClauseDone_15 rfl rfl ?_
      refine z_iconst (pc := 16) (v := nI 2) dX9_isClauseDone_16 (by decide) ?_
      first | refine z_iaddN (pc := 17) (by with_reducible rfl) (by with_reducible rfl) dX9_isClauseDone_17 ?_ | refine z_iadd (pc := 17) dX9_isClauseDone_17 ?_
      refine z_callV (pc := 18) (c_X5_digit_y cX (show vX I 67 S.len S.tx from hV.2.2.2.1) (by omega) hd2) dX9_isClauseDone_18 l_RX9_146 m_MX5_digit n_MX5_digit e_MX5_digit rfl (by omega) (by assumption) rfl rfl (Nat.le_of_ble_eq_true rfl) ?_
      rintro _ _ _ (⟨rfl, rfl, rfl⟩)
      try dsimp only [zov, Option.toList, List.cons_append, List.nil_append]
      refine z_istore (pc := 21) dX9_isClauseDone_21 (by decide) rfl ?_
      try dsimp only [zst1, zst2, zk]
      refine z_aload_n (pc := 23) dX9_isClauseDone_23 rfl rfl ?_
      refine z_getR (pc := 24) dX9_isClauseDone_24 f_RX9_24 (by assumption) rfl ?_
      refine z_iload_n (pc := 27) dX9_isClauseDone_27 rfl rfl ?_
      refine z_iconst (pc := 28) (v := nI 3) dX9_isClauseDone_28 (by decide) ?_
      first | refine z_iaddN (pc := 29) (by with_reducible rfl) (by with_reducible rfl) dX9_isClauseDone_29 ?_ | refine z_iadd (pc := 29) dX9_isClauseDone_29 ?_
      refine z_iload_n (pc := 30) dX9_isClauseDone_30 rfl rfl ?_
      refine z_callV (pc := 31) (c_X5_number_2 (x := if e = a + 4 then S.tx (a + 3) - 48 else 10 * (S.tx (a + 3) - 48) + (S.tx (a + 4) - 48)) cX (show vX I 67 S.len S.tx from hV.2.2.2.1) (by omega) hnb) dX9_isClauseDone_31 l_RX9_149 m_MX5_number n_MX5_number e_MX5_number rfl (by omega) (by assumption) rfl rfl (Nat.le_of_ble_eq_true rfl) ?_
      rintro _ _ _ (⟨rfl, rfl, rfl⟩)
      try dsimp only [zov, Option.toList, List.cons_append, List.nil_append]
      refine z_istore (pc := 34) dX9_isClauseDone_34 (by decide) rfl ?_
      try dsimp only [zst1, zst2, zk]
      refine z_aload_n (pc := 36) dX9_isClauseDone_36 rfl rfl ?_
      refine z_getR (pc := 37) dX9_isClauseDone_37 f_RX9_24 (by assumption) rfl ?_
      refine z_iload_n (pc := 40) dX9_isClauseDone_40 rfl rfl ?_
      refine z_callV (pc := 41) (c_X5_sign_y cX (show vX I 67 S.len S.tx from hV.2.2.2.1) (by omega) hlt hk) dX9_isClauseDone_41 l_RX9_152 m_MX5_sign n_MX5_sign e_MX5_sign rfl (by omega) (by assumption) rfl rfl (Nat.le_of_ble_eq_true rfl) ?_
      rintro _ _ _ (⟨rfl, rfl, rfl⟩)
      try dsimp only [zov, Option.toList, List.cons_append, List.nil_append]
      refine z_tableIn (pc := 44) (off := 88) (tgt := 132) dX9_isClauseDone_44 (by decide) (by decide) (by decide) (by decide) ?_
      refine z_aload_n (pc := 132) dX9_isClauseDone_132 rfl rfl ?_
      refine z_iload_n (pc := 133) dX9_isClauseDone_133 rfl rfl ?_
      refine z_iload (pc := 134) dX9_isClauseDone_134 rfl ?_
      refine z_iload (pc := 136) dX9_isClauseDone_136 rfl ?_
      refine z_callV (pc := 138) (c_X9_tell hC hV) dX9_isClauseDone_138 l_RX9_158 m_MX9_tell n_MX9_tell e_MX9_tell rfl (by omega) (by assumption) rfl rfl (Nat.le_of_ble_eq_true rfl) ?_
      rintro _ _ _ (hp)
      obtain ⟨x9, e9⟩ := ftell_i (S := S) (i := nI (S.tx (a + 1) - 48)) (j := nI (S.tx (a + 2) - 48)) (v := nI (if e = a + 4 then S.tx (a + 3) - 48 else 10 * (S.tx (a + 3) - 48) + (S.tx (a + 4) - 48)))
      obtain rfl := hp.1.trans e9
      try dsimp only [zov, Option.toList, List.cons_append, List.nil_append]
      first | refine z_if_ltN (pc := 141) (tgt := 148) (by with_reducible rfl) dX9_isClauseDone_141 (by decide) (by omega) (fun hb141 => ?_) (fun hb141 => ?_) | refine z_if_lt (pc := 141) (tgt := 148) dX9_isClauseDone_141 (by decide) (fun hb141 => ?_) (fun hb141 => ?_)
      · skip
        refine z_iconst (pc := 148) (v := nI 0) dX9_isClauseDone_148 (by decide) ?_
        refine z_zret (pc := 149) dX9_isClauseDone_149 rfl (by first | decide | assumption) ?_
        first
        | (rw [zdoes_n hk]; exact zPD_1 hp (by assumption))
        | (rw [zdoes_n hk]; exact zPD_1 hp (Int32.not_lt.mp (by assumption)))
        | (rw [zdoes_n hk]; exact zPD_0 hp (by assumption))
        | (rw [zdoes_n hk]; exact zPD_0 hp (Int32.not_le.mp (by assumption)))
        | fail
      · skip
        refine z_iconst (pc := 144) (v := nI 1) dX9_isClauseDone_144 (by decide) ?_
        refine z_goto (pc := 145) (tgt := 149) dX9_isClauseDone_145 (by decide) ?_
        refine z_zret (pc := 149) dX9_isClauseDone_149 rfl (by first | decide | assumption) ?_
        first
        | (rw [zdoes_n hk]; exact zPD_1 hp (by assumption))
        | (rw [zdoes_n hk]; exact zPD_1 hp (Int32.not_lt.mp (by assumption)))
        | (rw [zdoes_n hk]; exact zPD_0 hp (by assumption))
        | (rw [zdoes_n hk]; exact zPD_0 hp (Int32.not_le.mp (by assumption)))
        | fail
    · skip
      have hnb : (e = a + 3 + 1 ∧ zisb S.len S.tx (a + 3) = true ∧ (if e = a + 4 then S.tx (a + 3) - 48 else 10 * (S.tx (a + 3) - 48) + (S.tx (a + 4) - 48)) = S.tx (a + 3) - 48) ∨ (e = a + 3 + 2 ∧ zisb S.len S.tx (a + 3) = true ∧ zisb S.len S.tx (a + 3 + 1) = true ∧ (if e = a + 4 then S.tx (a + 3) - 48 else 10 * (S.tx (a + 3) - 48) + (S.tx (a + 4) - 48)) = 10 * (S.tx (a + 3) - 48) + (S.tx (a + 3 + 1) - 48)) := by
        rcases he with he | he
        · exact Or.inl ⟨by omega, hd3, if_pos he⟩
        · exact Or.inr ⟨by omega, hd3, he.2, if_neg (by omega)⟩
      refine z_aload_n (pc := 0) dX9_isClauseDone_0 rfl rfl ?_
      refine z_getR (pc := 1) dX9_isClauseDone_1 f_RX9_24 (by assumption) rfl ?_
      refine z_iload_n (pc := 4) dX9_isClauseDone_4 rfl rfl ?_
      refine z_iconst (pc := 5) (v := nI 1) dX9_isClauseDone_5 (by decide) ?_
      first | refine z_iaddN (pc := 6) (by with_reducible rfl) (by with_reducible rfl) dX9_isClauseDone_6 ?_ | refine z_iadd (pc := 6) dX9_isClauseDone_6 ?_
      refine z_callV (pc := 7) (c_X5_digit_y cX (show vX I 67 S.len S.tx from hV.2.2.2.1) (by omega) hd1) dX9_isClauseDone_7 l_RX9_146 m_MX5_digit n_MX5_digit e_MX5_digit rfl (by omega) (by assumption) rfl rfl (Nat.le_of_ble_eq_true rfl) ?_
      rintro _ _ _ (⟨rfl, rfl, rfl⟩)
      try dsimp only [zov, Option.toList, List.cons_append, List.nil_append]
      refine z_istore_n (pc := 10) dX9_isClauseDone_10 rfl (by decide) rfl ?_
      try dsimp only [zst1, zst2, zk]
      refine z_aload_n (pc := 11) dX9_isClauseDone_11 rfl rfl ?_
      refine z_getR (pc := 12) dX9_isClauseDone_12 f_RX9_24 (by assumption) rfl ?_
      refine z_iload_n (pc := 15) dX9_isClauseDone_15 rfl rfl ?_
      refine z_iconst (pc := 16) (v := nI 2) dX9_isClauseDone_16 (by decide) ?_
      first | refine z_iaddN (pc := 17) (by with_reducible rfl) (by with_reducible rfl) dX9_isClauseDone_17 ?_ | refine z_iadd (pc := 17) dX9_isClauseDone_17 ?_
      refine z_callV (pc := 18) (c_X5_digit_y cX (show vX I 67 S.len S.tx from hV.2.2.2.1) (by omega) hd2) dX9_isClauseDone_18 l_RX9_146 m_MX5_digit n_MX5_digit e_MX5_digit rfl (by omega) (by assumption) rfl rfl (Nat.le_of_ble_eq_true rfl) ?_
      rintro _ _ _ (⟨rfl, rfl, rfl⟩)
      try dsimp only [zov, Option.toList, List.cons_append, List.nil_append]
      refine z_istore (pc := 21) dX9_isClauseDone_21 (by decide) rfl ?_
      try dsimp only [zst1, zst2, zk]
      refine z_aload_n (pc := 23) dX9_isClauseDone_23 rfl rfl ?_
      refine z_getR (pc := 24) dX9_isClauseDone_24 f_RX9_24 (by assumption) rfl ?_
      refine z_iload_n (pc := 27) dX9_isClauseDone_27 rfl rfl ?_
      refine z_iconst (pc := 28) (v := nI 3) dX9_isClauseDone_28 (by decide) ?_
      first | refine z_iaddN (pc := 29) (by with_reducible rfl) (by with_reducible rfl) dX9_isClauseDone_29 ?_ | refine z_iadd (pc := 29) dX9_isClauseDone_29 ?_
      refine z_iload_n (pc := 30) dX9_isClauseDone_30 rfl rfl ?_
      refine z_callV (pc := 31) (c_X5_number_2 (x := if e = a + 4 then S.tx (a + 3) - 48 else 10 * (S.tx (a + 3) - 48) + (S.tx (a + 4) - 48)) cX (show vX I 67 S.len S.tx from hV.2.2.2.1) (by omega) hnb) dX9_isClauseDone_31 l_RX9_149 m_MX5_number n_MX5_number e_MX5_number rfl (by omega) (by assumption) rfl rfl (Nat.le_of_ble_eq_true rfl) ?_
      rintro _ _ _ (⟨rfl, rfl, rfl⟩)
      try dsimp only [zov, Option.toList, List.cons_append, List.nil_append]
      refine z_istore (pc := 34) dX9_isClauseDone_34 (by decide) rfl ?_
      try dsimp only [zst1, zst2, zk]
      refine z_aload_n (pc := 36) dX9_isClauseDone_36 rfl rfl ?_
      refine z_getR (pc := 37) dX9_isClauseDone_37 f_RX9_24 (by assumption) rfl ?_
      refine z_iload_n (pc := 40) dX9_isClauseDone_40 rfl rfl ?_
      refine z_callV (pc := 41) (c_X5_sign_y cX (show vX I 67 S.len S.tx from hV.2.2.2.1) (by omega) hlt hk) dX9_isClauseDone_41 l_RX9_152 m_MX5_sign n_MX5_sign e_MX5_sign rfl (by omega) (by assumption) rfl rfl (Nat.le_of_ble_eq_true rfl) ?_
      rintro _ _ _ (⟨rfl, rfl, rfl⟩)
      try dsimp only [zov, Option.toList, List.cons_append, List.nil_append]
      refine z_tableIn (pc := 44) (off := 124) (tgt := 168) dX9_isClauseDone_44 (by decide) (by decide) (by decide) (by decide) ?_
      refine z_aload_n (pc := 168) dX9_isClauseDone_168 rfl rfl ?_
      refine z_iload_n (pc := 169) dX9_isClauseDone_169 rfl rfl ?_
      refine z_iload (pc := 170) dX9_isClauseDone_170 rfl ?_
      refine z_iload (pc := 172) dX9_isClauseDone_172 rfl ?_
      refine z_callV (pc := 174) (c_X9_margin hC hV) dX9_isClauseDone_174 l_RX9_165 m_MX9_margin n_MX9_margin e_MX9_margin rfl (by omega) (by assumption) rfl rfl (Nat.le_of_ble_eq_true rfl) ?_
      rintro _ _ _ (hp)
      obtain ⟨x9, e9⟩ := fmargin_i (S := S) (i := nI (S.tx (a + 1) - 48)) (j := nI (S.tx (a + 2) - 48)) (v := nI (if e = a + 4 then S.tx (a + 3) - 48 else 10 * (S.tx (a + 3) - 48) + (S.tx (a + 4) - 48)))
      obtain rfl := hp.1.trans e9
      try dsimp only [zov, Option.toList, List.cons_append, List.nil_append]
      first | refine z_if_ltN (pc := 177) (tgt := 184) (by with_reducible rfl) dX9_isClauseDone_177 (by decide) (by omega) (fun hb177 => ?_) (fun hb177 => ?_) | refine z_if_lt (pc := 177) (tgt := 184) dX9_isClauseDone_177 (by decide) (fun hb177 => ?_) (fun hb177 => ?_)
      · skip
        refine z_iconst (pc := 184) (v := nI 0) dX9_isClauseDone_184 (by decide) ?_
        refine z_zret (pc := 185) dX9_isClauseDone_185 rfl (by first | decide | assumption) ?_
        first
        | (rw [zdoes_m hk]; exact zPD_1 hp (by assumption))
        | (rw [zdoes_m hk]; exact zPD_1 hp (Int32.not_lt.mp (by assumption)))
        | (rw [zdoes_m hk]; exact zPD_0 hp (by assumption))
        | (rw [zdoes_m hk]; exact zPD_0 hp (Int32.not_le.mp (by assumption)))
        | fail
      · skip
        refine z_iconst (pc := 180) (v := nI 1) dX9_isClauseDone_180 (by decide) ?_
        refine z_goto (pc := 181) (tgt := 185) dX9_isClauseDone_181 (by decide) ?_
        refine z_zret (pc := 185) dX9_isClauseDone_185 rfl (by first | decide | assumption) ?_
        first
        | (rw [zdoes_m hk]; exact zPD_1 hp (by assumption))
        | (rw [zdoes_m hk]; exact zPD_1 hp (Int32.not_lt.mp (by assumption)))
        | (rw [zdoes_m hk]; exact zPD_0 hp (by assumption))
        | (rw [zdoes_m hk]; exact zPD_0 hp (Int32.not_le.mp (by assumption)))
        | fail
  · have he0 := he
    replace he : e = a + 4 ∨ (e = a + 5 ∧ zisb S.len S.tx (a + 4) = true) := Or.inl he0
    have hnb : (e = a + 3 + 1 ∧ zisb S.len S.tx (a + 3) = true ∧ (if e = a + 4 then S.tx (a + 3) - 48 else 10 * (S.tx (a + 3) - 48) + (S.tx (a + 4) - 48)) = S.tx (a + 3) - 48) ∨ (e = a + 3 + 2 ∧ zisb S.len S.tx (a + 3) = true ∧ zisb S.len S.tx (a + 3 + 1) = true ∧ (if e = a + 4 then S.tx (a + 3) - 48 else 10 * (S.tx (a + 3) - 48) + (S.tx (a + 4) - 48)) = 10 * (S.tx (a + 3) - 48) + (S.tx (a + 3 + 1) - 48)) := by
      rcases he with he | he
      · exact Or.inl ⟨by omega, hd3, if_pos he⟩
      · exact Or.inr ⟨by omega, hd3, he.2, if_neg (by omega)⟩
    refine z_aload_n (pc := 0) dX9_isClauseDone_0 rfl rfl ?_
    refine z_getR (pc := 1) dX9_isClauseDone_1 f_RX9_24 (by assumption) rfl ?_
    refine z_iload_n (pc := 4) dX9_isClauseDone_4 rfl rfl ?_
    refine z_iconst (pc := 5) (v := nI 1) dX9_isClauseDone_5 (by decide) ?_
    first | refine z_iaddN (pc := 6) (by with_reducible rfl) (by with_reducible rfl) dX9_isClauseDone_6 ?_ | refine z_iadd (pc := 6) dX9_isClauseDone_6 ?_
    refine z_callV (pc := 7) (c_X5_digit_y cX (show vX I 67 S.len S.tx from hV.2.2.2.1) (by omega) hd1) dX9_isClauseDone_7 l_RX9_146 m_MX5_digit n_MX5_digit e_MX5_digit rfl (by omega) (by assumption) rfl rfl (Nat.le_of_ble_eq_true rfl) ?_
    rintro _ _ _ (⟨rfl, rfl, rfl⟩)
    try dsimp only [zov, Option.toList, List.cons_append, List.nil_append]
    refine z_istore_n (pc := 10) dX9_isClauseDone_10 rfl (by decide) rfl ?_
    try dsimp only [zst1, zst2, zk]
    refine z_aload_n (pc := 11) dX9_isClauseDone_11 rfl rfl ?_
    refine z_getR (pc := 12) dX9_isClauseDone_12 f_RX9_24 (by assumption) rfl ?_
    refine z_iload_n (pc := 15) dX9_isClauseDone_15 rfl rfl ?_
    refine z_iconst (pc := 16) (v := nI 2) dX9_isClauseDone_16 (by decide) ?_
    first | refine z_iaddN (pc := 17) (by with_reducible rfl) (by with_reducible rfl) dX9_isClauseDone_17 ?_ | refine z_iadd (pc := 17) dX9_isClauseDone_17 ?_
    refine z_callV (pc := 18) (c_X5_digit_y cX (show vX I 67 S.len S.tx from hV.2.2.2.1) (by omega) hd2) dX9_isClauseDone_18 l_RX9_146 m_MX5_digit n_MX5_digit e_MX5_digit rfl (by omega) (by assumption) rfl rfl (Nat.le_of_ble_eq_true rfl) ?_
    rintro _ _ _ (⟨rfl, rfl, rfl⟩)
    try dsimp only [zov, Option.toList, List.cons_append, List.nil_append]
    refine z_istore (pc := 21) dX9_isClauseDone_21 (by decide) rfl ?_
    try dsimp only [zst1, zst2, zk]
    refine z_aload_n (pc := 23) dX9_isClauseDone_23 rfl rfl ?_
    refine z_getR (pc := 24) dX9_isClauseDone_24 f_RX9_24 (by assumption) rfl ?_
    refine z_iload_n (pc := 27) dX9_isClauseDone_27 rfl rfl ?_
    refine z_iconst (pc := 28) (v := nI 3) dX9_isClauseDone_28 (by decide) ?_
    first | refine z_iaddN (pc := 29) (by with_reducible rfl) (by with_reducible rfl) dX9_isClauseDone_29 ?_ | refine z_iadd (pc := 29) dX9_isClauseDone_29 ?_
    refine z_iload_n (pc := 30) dX9_isClauseDone_30 rfl rfl ?_
    refine z_callV (pc := 31) (c_X5_number_2 (x := if e = a + 4 then S.tx (a + 3) - 48 else 10 * (S.tx (a + 3) - 48) + (S.tx (a + 4) - 48)) cX (show vX I 67 S.len S.tx from hV.2.2.2.1) (by omega) hnb) dX9_isClauseDone_31 l_RX9_149 m_MX5_number n_MX5_number e_MX5_number rfl (by omega) (by assumption) rfl rfl (Nat.le_of_ble_eq_true rfl) ?_
    rintro _ _ _ (⟨rfl, rfl, rfl⟩)
    try dsimp only [zov, Option.toList, List.cons_append, List.nil_append]
    refine z_istore (pc := 34) dX9_isClauseDone_34 (by decide) rfl ?_
    try dsimp only [zst1, zst2, zk]
    refine z_aload_n (pc := 36) dX9_isClauseDone_36 rfl rfl ?_
    refine z_getR (pc := 37) dX9_isClauseDone_37 f_RX9_24 (by assumption) rfl ?_
    refine z_iload_n (pc := 40) dX9_isClauseDone_40 rfl rfl ?_
    refine z_callV (pc := 41) (c_X5_sign_y cX (show vX I 67 S.len S.tx from hV.2.2.2.1) (by omega) hlt hk) dX9_isClauseDone_41 l_RX9_152 m_MX5_sign n_MX5_sign e_MX5_sign rfl (by omega) (by assumption) rfl rfl (Nat.le_of_ble_eq_true rfl) ?_
    rintro _ _ _ (⟨rfl, rfl, rfl⟩)
    try dsimp only [zov, Option.toList, List.cons_append, List.nil_append]
    refine z_tableIn (pc := 44) (off := 106) (tgt := 150) dX9_isClauseDone_44 (by decide) (by decide) (by decide) (by decide) ?_
    refine z_aload_n (pc := 150) dX9_isClauseDone_150 rfl rfl ?_
    refine z_iload_n (pc := 151) dX9_isClauseDone_151 rfl rfl ?_
    refine z_iload (pc := 152) dX9_isClauseDone_152 rfl ?_
    refine z_iload (pc := 154) dX9_isClauseDone_154 rfl ?_
    refine z_callV (pc := 156) (c_X9_mark hC hV) dX9_isClauseDone_156 l_RX9_162 m_MX9_mark n_MX9_mark e_MX9_mark rfl (by omega) (by assumption) rfl rfl (Nat.le_of_ble_eq_true rfl) ?_
    rintro _ _ _ (hp)
    obtain ⟨x9, e9⟩ := fmark_i (S := S) (i := nI (S.tx (a + 1) - 48)) (j := nI (S.tx (a + 2) - 48)) (v := nI (if e = a + 4 then S.tx (a + 3) - 48 else 10 * (S.tx (a + 3) - 48) + (S.tx (a + 4) - 48)))
    obtain rfl := hp.1.trans e9
    try dsimp only [zov, Option.toList, List.cons_append, List.nil_append]
    first | refine z_if_ltN (pc := 159) (tgt := 166) (by with_reducible rfl) dX9_isClauseDone_159 (by decide) (by omega) (fun hb159 => ?_) (fun hb159 => ?_) | refine z_if_lt (pc := 159) (tgt := 166) dX9_isClauseDone_159 (by decide) (fun hb159 => ?_) (fun hb159 => ?_)
    · skip
      refine z_iconst (pc := 166) (v := nI 0) dX9_isClauseDone_166 (by decide) ?_
      refine z_zret (pc := 167) dX9_isClauseDone_167 rfl (by first | decide | assumption) ?_
      first
      | (rw [zdoes_k hk]; exact zPD_1 hp (by assumption))
      | (rw [zdoes_k hk]; exact zPD_1 hp (Int32.not_lt.mp (by assumption)))
      | (rw [zdoes_k hk]; exact zPD_0 hp (by assumption))
      | (rw [zdoes_k hk]; exact zPD_0 hp (Int32.not_le.mp (by assumption)))
      | fail
    · skip
      refine z_iconst (pc := 162) (v := nI 1) dX9_isClauseDone_162 (by decide) ?_
      refine z_goto (pc := 163) (tgt := 167) dX9_isClauseDone_163 (by decide) ?_
      refine z_zret (pc := 167) dX9_isClauseDone_167 rfl (by first | decide | assumption) ?_
      first
      | (rw [zdoes_k hk]; exact zPD_1 hp (by assumption))
      | (rw [zdoes_k hk]; exact zPD_1 hp (Int32.not_lt.mp (by assumption)))
      | (rw [zdoes_k hk]; exact zPD_0 hp (by assumption))
      | (rw [zdoes_k hk]; exact zPD_0 hp (Int32.not_le.mp (by assumption)))
      | fail
  · have hz2 : S.n 2 = 0 ∨ S.n 2 = 1 := (by omega)
    refine z_aload_n (pc := 0) dX9_isClauseDone_0 rfl rfl ?_
    refine z_getR (pc := 1) dX9_isClauseDone_1 f_RX9_24 (by assumption) rfl ?_
    refine z_iload_n (pc := 4) dX9_isClauseDone_4 rfl rfl ?_
    refine z_iconst (pc := 5) (v := nI 1) dX9_isClauseDone_5 (by decide) ?_
    first | refine z_iaddN (pc := 6) (by with_reducible rfl) (by with_reducible rfl) dX9_isClauseDone_6 ?_ | refine z_iadd (pc := 6) dX9_isClauseDone_6 ?_
    refine z_callV (pc := 7) (c_X5_digit_a cX (show vX I 67 S.len S.tx from hV.2.2.2.1) (by omega)) dX9_isClauseDone_7 l_RX9_146 m_MX5_digit n_MX5_digit e_MX5_digit rfl (by omega) (by assumption) rfl rfl (Nat.le_of_ble_eq_true rfl) ?_
    rintro _ _ _ (⟨⟨v9, rfl⟩, rfl, rfl⟩)
    try dsimp only [zov, Option.toList, List.cons_append, List.nil_append]
    refine z_istore_n (pc := 10) dX9_isClauseDone_10 rfl (by decide) rfl ?_
    try dsimp only [zst1, zst2, zk]
    refine z_aload_n (pc := 11) dX9_isClauseDone_11 rfl rfl ?_
    refine z_getR (pc := 12) dX9_isClauseDone_12 f_RX9_24 (by assumption) rfl ?_
    refine z_iload_n (pc := 15) dX9_isClauseDone_15 rfl rfl ?_
    refine z_iconst (pc := 16) (v := nI 2) dX9_isClauseDone_16 (by decide) ?_
    first | refine z_iaddN (pc := 17) (by with_reducible rfl) (by with_reducible rfl) dX9_isClauseDone_17 ?_ | refine z_iadd (pc := 17) dX9_isClauseDone_17 ?_
    refine z_callV (pc := 18) (c_X5_digit_a cX (show vX I 67 S.len S.tx from hV.2.2.2.1) (by omega)) dX9_isClauseDone_18 l_RX9_146 m_MX5_digit n_MX5_digit e_MX5_digit rfl (by omega) (by assumption) rfl rfl (Nat.le_of_ble_eq_true rfl) ?_
    rintro _ _ _ (⟨⟨v9, rfl⟩, rfl, rfl⟩)
    try dsimp only [zov, Option.toList, List.cons_append, List.nil_append]
    refine z_istore (pc := 21) dX9_isClauseDone_21 (by decide) rfl ?_
    try dsimp only [zst1, zst2, zk]
    refine z_aload_n (pc := 23) dX9_isClauseDone_23 rfl rfl ?_
    refine z_getR (pc := 24) dX9_isClauseDone_24 f_RX9_24 (by assumption) rfl ?_
    refine z_iload_n (pc := 27) dX9_isClauseDone_27 rfl rfl ?_
    refine z_iconst (pc := 28) (v := nI 3) dX9_isClauseDone_28 (by decide) ?_
    first | refine z_iaddN (pc := 29) (by with_reducible rfl) (by with_reducible rfl) dX9_isClauseDone_29 ?_ | refine z_iadd (pc := 29) dX9_isClauseDone_29 ?_
    refine z_iload_n (pc := 30) dX9_isClauseDone_30 rfl rfl ?_
    refine z_callV (pc := 31) (c_X5_number_1 cX (show vX I 67 S.len S.tx from hV.2.2.2.1) (by omega) (by omega)) dX9_isClauseDone_31 l_RX9_149 m_MX5_number n_MX5_number e_MX5_number rfl (by omega) (by assumption) rfl rfl (Nat.le_of_ble_eq_true rfl) ?_
    rintro _ _ _ (⟨rfl, rfl, rfl⟩)
    try dsimp only [zov, Option.toList, List.cons_append, List.nil_append]
    refine z_istore (pc := 34) dX9_isClauseDone_34 (by decide) rfl ?_
    try dsimp only [zst1, zst2, zk]
    refine z_aload_n (pc := 36) dX9_isClauseDone_36 rfl rfl ?_
    refine z_getR (pc := 37) dX9_isClauseDone_37 f_RX9_24 (by assumption) rfl ?_
    refine z_iload_n (pc := 40) dX9_isClauseDone_40 rfl rfl ?_
    refine z_callV (pc := 41) (c_X5_sign_y cX (show vX I 67 S.len S.tx from hV.2.2.2.1) (by omega) hlt hk) dX9_isClauseDone_41 l_RX9_152 m_MX5_sign n_MX5_sign e_MX5_sign rfl (by omega) (by assumption) rfl rfl (Nat.le_of_ble_eq_true rfl) ?_
    rintro _ _ _ (⟨rfl, rfl, rfl⟩)
    try dsimp only [zov, Option.toList, List.cons_append, List.nil_append]
    refine z_tableIn (pc := 44) (off := 142) (tgt := 186) dX9_isClauseDone_44 (by decide) (by decide) (by decide) (by decide) ?_
    refine z_aload_n (pc := 186) dX9_isClauseDone_186 rfl rfl ?_
    refine z_aload_n (pc := 187) dX9_isClauseDone_187 rfl rfl ?_
    refine z_getR (pc := 188) dX9_isClauseDone_188 f_RX9_12 (by assumption) rfl ?_
    refine z_getR (pc := 191) dX9_isClauseDone_191 f_RX9_83 (by assumption) rfl ?_
    refine z_getIv (pc := 194) dX9_isClauseDone_194 f_RX9_118 (by assumption) rfl (by first | assumption | exact v3 _ (by omega) | exact v4 _ (by omega) | exact v5 _ (by omega) | exact y0 _ (by omega) | exact y1 _ (by omega) | rfl) ?_
    first | refine z_if_neN (pc := 197) (tgt := 204) (by with_reducible rfl) dX9_isClauseDone_197 (by decide) (by omega) (fun hb197 => ?_) (fun hb197 => ?_) | refine z_if_ne (pc := 197) (tgt := 204) dX9_isClauseDone_197 (by decide) (fun hb197 => ?_) (fun hb197 => ?_)
    · skip
      refine z_iconst (pc := 204) (v := nI 0) dX9_isClauseDone_204 (by decide) ?_
      refine z_callV (pc := 205) (c_X9_three hC hV (by omega)) dX9_isClauseDone_205 l_RX9_168 m_MX9_three n_MX9_three e_MX9_three rfl (by omega) (by assumption) rfl rfl (Nat.le_of_ble_eq_true rfl) ?_
      rintro _ _ _ (⟨rfl, h3v, h3i, h3j⟩)
      try dsimp only [zov, Option.toList, List.cons_append, List.nil_append]
      first | refine z_if_ltN (pc := 208) (tgt := 215) (by with_reducible rfl) dX9_isClauseDone_208 (by decide) (by omega) (fun hb208 => ?_) (fun hb208 => ?_) | refine z_if_lt (pc := 208) (tgt := 215) dX9_isClauseDone_208 (by decide) (fun hb208 => ?_) (fun hb208 => ?_)
      · skip
        refine z_iconst (pc := 215) (v := nI 0) dX9_isClauseDone_215 (by decide) ?_
        refine z_zret (pc := 216) dX9_isClauseDone_216 rfl (by first | decide | assumption) ?_
        first
        | (rw [zdoes_x hk, show 1 - S.n 2 = 1 by omega]; exact zPD_1 (p := fthree S 1) ⟨rfl, h3v, h3i, h3j⟩ (nI_le0 (by omega)))
        | (rw [zdoes_x hk, show 1 - S.n 2 = 0 by omega]; exact zPD_1 (p := fthree S 0) ⟨rfl, h3v, h3i, h3j⟩ (nI_le0 (by omega)))
        | exact hb208.elim
        | fail
      · skip
        refine z_iconst (pc := 211) (v := nI 1) dX9_isClauseDone_211 (by decide) ?_
        refine z_goto (pc := 212) (tgt := 216) dX9_isClauseDone_212 (by decide) ?_
        refine z_zret (pc := 216) dX9_isClauseDone_216 rfl (by first | decide | assumption) ?_
        first
        | (rw [zdoes_x hk, show 1 - S.n 2 = 1 by omega]; exact zPD_1 (p := fthree S 1) ⟨rfl, h3v, h3i, h3j⟩ (nI_le0 (by omega)))
        | (rw [zdoes_x hk, show 1 - S.n 2 = 0 by omega]; exact zPD_1 (p := fthree S 0) ⟨rfl, h3v, h3i, h3j⟩ (nI_le0 (by omega)))
        | exact hb208.elim
        | fail
    · skip
      refine z_iconst (pc := 200) (v := nI 1) dX9_isClauseDone_200 (by decide) ?_
      refine z_goto (pc := 201) (tgt := 205) dX9_isClauseDone_201 (by decide) ?_
      refine z_callV (pc := 205) (c_X9_three hC hV (by omega)) dX9_isClauseDone_205 l_RX9_168 m_MX9_three n_MX9_three e_MX9_three rfl (by omega) (by assumption) rfl rfl (Nat.le_of_ble_eq_true rfl) ?_
      rintro _ _ _ (⟨rfl, h3v, h3i, h3j⟩)
      try dsimp only [zov, Option.toList, List.cons_append, List.nil_append]
      first | refine z_if_ltN (pc := 208) (tgt := 215) (by with_reducible rfl) dX9_isClauseDone_208 (by decide) (by omega) (fun hb208 => ?_) (fun hb208 => ?_) | refine z_if_lt (pc := 208) (tgt := 215) dX9_isClauseDone_208 (by decide) (fun hb208 => ?_) (fun hb208 => ?_)
      · skip
        refine z_iconst (pc := 215) (v := nI 0) dX9_isClauseDone_215 (by decide) ?_
        refine z_zret (pc := 216) dX9_isClauseDone_216 rfl (by first | decide | assumption) ?_
        first
        | (rw [zdoes_x hk, show 1 - S.n 2 = 1 by omega]; exact zPD_1 (p := fthree S 1) ⟨rfl, h3v, h3i, h3j⟩ (nI_le0 (by omega)))
        | (rw [zdoes_x hk, show 1 - S.n 2 = 0 by omega]; exact zPD_1 (p := fthree S 0) ⟨rfl, h3v, h3i, h3j⟩ (nI_le0 (by omega)))
        | exact hb208.elim
        | fail
      · skip
        refine z_iconst (pc := 211) (v := nI 1) dX9_isClauseDone_211 (by decide) ?_
        refine z_goto (pc := 212) (tgt := 216) dX9_isClauseDone_212 (by decide) ?_
        refine z_zret (pc := 216) dX9_isClauseDone_216 rfl (by first | decide | assumption) ?_
        first
        | (rw [zdoes_x hk, show 1 - S.n 2 = 1 by omega]; exact zPD_1 (p := fthree S 1) ⟨rfl, h3v, h3i, h3j⟩ (nI_le0 (by omega)))
        | (rw [zdoes_x hk, show 1 - S.n 2 = 0 by omega]; exact zPD_1 (p := fthree S 0) ⟨rfl, h3v, h3i, h3j⟩ (nI_le0 (by omega)))
        | exact hb208.elim
        | fail
