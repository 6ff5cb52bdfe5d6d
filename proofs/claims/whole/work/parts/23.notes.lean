/-! ===== whole numbers: found or not; notes; pictures ===== -/
def zrnd (n m : Nat → Nat) : Option (Nat → Nat) := match zttl n m (n 0) 0 (0, 1) with
  | none => none
  | some _ => if zcok n m (n 1) 0 = true then zpf n m 16 0 0 (fun _ => 0) else none
theorem zrnd_y {n m : Nat → Nat} (h : zfnd n m) : zrnd n m = zpf n m 16 0 0 (fun _ => 0) := by
  unfold zrnd
  have h1 := h.1
  cases e : zttl n m (n 0) 0 (0, 1) with
  | none => exact absurd e h1
  | some q => exact if_pos h.2
theorem zrnd_n {n m : Nat → Nat} (h : ¬ zfnd n m) : zrnd n m = none := by
  unfold zrnd
  cases e : zttl n m (n 0) 0 (0, 1) with
  | none => rfl
  | some q => exact if_neg (fun h2 => h ⟨by rw [e]; exact fun h => (by cases h), h2⟩)
theorem zg7 {I : zI} {r : Nat} {a b : Int32} : zup (zup I r 7 a) r 8 b r 7 = a := by simp [zup]
theorem zg8 {I : zI} {r : Nat} {a b : Int32} : zup (zup I r 7 a) r 8 b r 8 = b := by simp [zup]
set_option maxHeartbeats 2000000 in
set_option maxRecDepth 20000 in
theorem c_X4_isFound {lay : List zL} {I : zI} {J : zJ} {r0 s t : Nat} {n m1 : Nat → Nat} (hS : kS lay s) (hV : vS I s n) (hB : bS n) (hT : kT lay t) (hU : vT I J t m1) (hb : bT m1) (hR : kR lay r0) (hrs : r0 + 7 < s ∨ s + 3 < r0) (hrt : r0 + 7 < t ∨ t + 4 < r0) : zMet lay MX4_isFound 21 [.ref r0, .ref s, .ref t] I J (fun r I' J' => ((r = .int (nI 1) ∧ ∃ w, zrnd n m1 = some w ∧ zagr I' r0 n w 9) ∨ (r = .int (nI 0) ∧ zrnd n m1 = none)) ∧ (∀ x, (x < r0 ∨ r0 + 5 < x) → I' x = I x) ∧ ∀ x, x ≠ r0 + 6 → x ≠ r0 + 7 → J' x = J x) := by
  refine zMet_of (t := MX4_isFound) (ls := [.ref r0, .ref s, .ref t]) (by decide +kernel) (Nat.le_of_ble_eq_true rfl) rfl ?_
  obtain ⟨q0, ⟨q1, q2, q3⟩, ⟨q4, q5⟩, q6, q7⟩ := id hR
  obtain ⟨h1, h2, h3, h4⟩ := id hS
  obtain ⟨v0, v1, v2, v3, v4, v5⟩ := id hV
  obtain ⟨b1, b2, b3, b4, b5, b6, b7, b8⟩ := id hB
  refine z_aload_n (pc := 0) dX4_isFound_0 rfl rfl ?_
  refine z_aload_n (pc := 1) dX4_isFound_1 rfl rfl ?_
  refine z_getIv (pc := 2) dX4_isFound_2 f_RX4_37 (by assumption) rfl (by first | assumption | (rw [zup_o (by omega)]; assumption) | exact zup_v (by omega) v1 | rfl) ?_
  refine z_putI (pc := 5) dX4_isFound_5 f_RX4_43 (by assumption) rfl ?_
  refine z_aload_n (pc := 8) dX4_isFound_8 rfl rfl ?_
  refine z_aload_n (pc := 9) dX4_isFound_9 rfl rfl ?_
  refine z_getIv (pc := 10) dX4_isFound_10 f_RX4_44 (by assumption) rfl (by first | assumption | (rw [zup_o (by omega)]; assumption) | exact zup_v (by omega) v1 | rfl) ?_
  refine z_putI (pc := 13) dX4_isFound_13 f_RX4_47 (by assumption) rfl ?_
  refine z_aload_n (pc := 16) dX4_isFound_16 rfl rfl ?_
  refine z_aload_n (pc := 17) dX4_isFound_17 rfl rfl ?_
  refine z_aload_n (pc := 18) dX4_isFound_18 rfl rfl ?_
  refine z_callV (pc := 19) (c_X4_areSumsBounded (n := n) (m1 := m1) (by assumption) (vS_to hV (by rw [zup_o (by omega), zup_o (by omega)]) (by rw [zup_o (by omega), zup_o (by omega)]) (by rw [zup_o (by omega), zup_o (by omega)]) (by rw [zup_o (by omega), zup_o (by omega)])) (by assumption) (by assumption) (vT_to hU (by rw [zup_o (by omega), zup_o (by omega)]) rfl rfl) (by assumption) (by assumption) (by omega) (by omega) zg7 zg8) dX4_isFound_19 l_RX4_48 m_MX4_areSumsBounded n_MX4_areSumsBounded e_MX4_areSumsBounded rfl (by omega) (by assumption) rfl rfl (Nat.le_of_ble_eq_true rfl) ?_
  rintro _ _ _ ⟨⟨rfl, hz, d1, d2, d3⟩ | ⟨rfl, hz⟩, hf1, hf2⟩
  · skip
    try dsimp only [zov, Option.toList, List.cons_append, List.nil_append]
    first | refine z_if_neN (pc := 22) (tgt := 27) (by with_reducible rfl) dX4_isFound_22 (by decide) (by omega) (fun hb22 => ?_) (fun hb22 => absurd hb22 (by decide)) | refine z_if_ne (pc := 22) (tgt := 27) dX4_isFound_22 (by decide) (fun hb22 => ?_) (fun hb22 => absurd hb22 (by decide))
    · skip
      refine z_aload_n (pc := 27) dX4_isFound_27 rfl rfl ?_
      refine z_aload_n (pc := 28) dX4_isFound_28 rfl rfl ?_
      refine z_callV (pc := 29) (c_X4_boundCells (m1 := m1) (by assumption) (by assumption) (fun k hk => (congrFun (hf2 (t + 1) (by omega) (by omega)) k).trans (hU.1 k hk)) (fun k hk => (congrFun (hf2 (t + 2) (by omega) (by omega)) k).trans (hU.2.1 k hk)) (by assumption)) dX4_isFound_29 l_RX4_52 m_MX4_boundCells n_MX4_boundCells e_MX4_boundCells rfl (by omega) (by assumption) rfl rfl (Nat.le_of_ble_eq_true rfl) ?_
      rintro _ _ _ (⟨rfl, ⟨c1, c2, c3⟩, rfl⟩)
      try dsimp only [zov, Option.toList, List.cons_append, List.nil_append]
      have hH9 : zRH _ r0 n m1 := ⟨(congrFun (c3 r0 (by omega) (by omega)) 7).trans ((congrFun (hf1 r0 (by omega) (by omega)) 7).trans zg7), (congrFun (c3 r0 (by omega) (by omega)) 8).trans ((congrFun (hf1 r0 (by omega) (by omega)) 8).trans zg8), c1, c2, fun l a b => by rw [c3 _ (by omega) (by omega), c3 _ (by omega) (by omega)]; exact d1 l a b, fun l a b => by rw [c3 _ (by omega) (by omega), c3 _ (by omega) (by omega)]; exact d2 l a b, fun l a b => by rw [c3 _ (by omega) (by omega), c3 _ (by omega) (by omega)]; exact d3 l a b⟩
      have hfr9 : ∀ x, (x < r0 ∨ r0 + 5 < x) → x ≠ r0 + 1 → _ = I x := fun x hx hx1 => (c3 x (by omega) (by omega)).trans ((hf1 x (by omega) (by omega)).trans (by rw [zup_o (by omega), zup_o (by omega)]))
      refine z_aload_n (pc := 32) dX4_isFound_32 rfl rfl ?_
      refine z_iconst (pc := 33) (v := nI 0) dX4_isFound_33 (by decide) ?_
      refine z_iconst (pc := 34) (v := nI 0) dX4_isFound_34 (by decide) ?_
      refine z_callS (pc := 35) (c_X4_isPutFrom (n := n) (m1 := m1) hR hB hb 16 0 0 (by omega) (by omega) (by omega) _ (fun _ => 0) hH9 (fun k a => by omega)) dX4_isFound_35 l_RX4_56 m_MX4_isPutFrom s_MX4_isPutFrom rfl (by omega) rfl (Nat.le_of_ble_eq_true rfl) ?_
      rintro _ _ _ ⟨⟨rfl, w, ew, hw⟩ | ⟨rfl, ew, hw⟩, hf3, rfl⟩
      · skip
        try dsimp only [zov, Option.toList, List.cons_append, List.nil_append]
        refine z_zret (pc := 38) dX4_isFound_38 rfl (by first | decide | assumption) ?_
        first
          | exact ⟨Or.inr ⟨rfl, zrnd_n hz⟩, fun x hx => (hf1 x (by omega) (by omega)).trans (by rw [zup_o (by omega), zup_o (by omega)]), hf2⟩
          | exact ⟨Or.inl ⟨rfl, w, by rw [zrnd_y hz]; exact ew, hw⟩, fun x hx => (hf3 x (by omega)).trans (hfr9 x hx (by omega)), hf2⟩
          | exact ⟨Or.inr ⟨rfl, by rw [zrnd_y hz]; exact ew⟩, fun x hx => (hf3 x (by omega)).trans (hfr9 x hx (by omega)), hf2⟩
          | fail
      · skip
        try dsimp only [zov, Option.toList, List.cons_append, List.nil_append]
        refine z_zret (pc := 38) dX4_isFound_38 rfl (by first | decide | assumption) ?_
        first
          | exact ⟨Or.inr ⟨rfl, zrnd_n hz⟩, fun x hx => (hf1 x (by omega) (by omega)).trans (by rw [zup_o (by omega), zup_o (by omega)]), hf2⟩
          | exact ⟨Or.inl ⟨rfl, w, by rw [zrnd_y hz]; exact ew, hw⟩, fun x hx => (hf3 x (by omega)).trans (hfr9 x hx (by omega)), hf2⟩
          | exact ⟨Or.inr ⟨rfl, by rw [zrnd_y hz]; exact ew⟩, fun x hx => (hf3 x (by omega)).trans (hfr9 x hx (by omega)), hf2⟩
          | fail
  · skip
    try dsimp only [zov, Option.toList, List.cons_append, List.nil_append]
    first | refine z_if_neN (pc := 22) (tgt := 27) (by with_reducible rfl) dX4_isFound_22 (by decide) (by omega) (fun hb22 => absurd hb22 (by decide)) (fun hb22 => ?_) | refine z_if_ne (pc := 22) (tgt := 27) dX4_isFound_22 (by decide) (fun hb22 => absurd hb22 (by decide)) (fun hb22 => ?_)
    · skip
      refine z_iconst (pc := 25) (v := nI 0) dX4_isFound_25 (by decide) ?_
      refine z_zret (pc := 26) dX4_isFound_26 rfl (by first | decide | assumption) ?_
      first
        | exact ⟨Or.inr ⟨rfl, zrnd_n hz⟩, fun x hx => (hf1 x (by omega) (by omega)).trans (by rw [zup_o (by omega), zup_o (by omega)]), hf2⟩
        | exact ⟨Or.inl ⟨rfl, w, by rw [zrnd_y hz]; exact ew, hw⟩, fun x hx => (hf3 x (by omega)).trans (hfr9 x hx (by omega)), hf2⟩
        | exact ⟨Or.inr ⟨rfl, by rw [zrnd_y hz]; exact ew⟩, fun x hx => (hf3 x (by omega)).trans (hfr9 x hx (by omega)), hf2⟩
        | fail
/-- notes at a: most is e; what they hold: the number at o of n, the rows from b on, split by s -/
def kN (lay : List zL) (a : Nat) (e : Nat) : Prop := lay[a]? = some (.inl (1, [0, 0, a + 3, a + 4])) ∧ lay[a + 1]? = some (.inr (.inl e)) ∧ lay[a + 2]? = some (.inr (.inl e))
def vN (I : zI) (a e : Nat) (c : Nat) (f g : Nat → Nat) : Prop := I a 0 = nI e ∧ I a 1 = nI c ∧ c ≤ e ∧ (∀ k, k < c → I (a + 1) k = nI (f k)) ∧ ∀ k, k < c → I (a + 2) k = nI (g k)
set_option maxHeartbeats 2000000 in
set_option maxRecDepth 20000 in
theorem c_X1_empty {lay : List zL} {I : zI} {J : zJ} {a e : Nat} (hN : kN lay a e) : zMet lay MX1_empty 0 [.ref a] I J (fun r I' J' => r = .int (nI 0) ∧ I' = zup I a 1 (nI 0) ∧ J = J') := by
  refine zMet_of (t := MX1_empty) (ls := [.ref a]) (by decide +kernel) (Nat.le_of_ble_eq_true rfl) rfl ?_
  obtain ⟨h1, h2, h3⟩ := hN
  refine z_aload_n (pc := 0) dX1_empty_0 rfl rfl ?_
  refine z_iconst (pc := 1) (v := nI 0) dX1_empty_1 (by decide) ?_
  refine z_putI (pc := 2) dX1_empty_2 f_RX1_28 (by assumption) rfl ?_
  refine z_iconst (pc := 5) (v := nI 0) dX1_empty_5 (by decide) ?_
  refine z_iret (pc := 6) dX1_empty_6 rfl ?_
  exact ⟨rfl, rfl, rfl⟩
set_option maxHeartbeats 2000000 in
set_option maxRecDepth 20000 in
theorem c_X1_append5 {lay : List zL} {I : zI} {J : zJ} {a c x y : Nat} {f g : Nat → Nat} (hN : kN lay a 5) (hV : vN I a 5 c f g) : zMet lay MX1_append 0 [.ref a, .int (nI x), .int (nI y)] I J (fun r I' J' => ((r = .int (-4) ∧ c = 5 ∧ I = I') ∨ (r = .int (nI (c + 1)) ∧ c < 5 ∧ I' = zup (zup (zup I (a + 1) c (nI x)) (a + 2) c (nI y)) a 1 (nI (c + 1)))) ∧ J = J') := by
  refine zMet_of (t := MX1_append) (ls := [.ref a, .int (nI x), .int (nI y)]) (by decide +kernel) (Nat.le_of_ble_eq_true rfl) rfl ?_
  obtain ⟨h1, h2, h3⟩ := id hN
  obtain ⟨v0, v1, v2, v3, v4⟩ := id hV
  refine z_aload_n (pc := 0) dX1_append_0 rfl rfl ?_
  refine z_getIv (pc := 1) dX1_append_1 f_RX1_28 (by assumption) rfl (by first | assumption | exact zup_v (by omega) v1 | exact zup_v (by omega) (zup_v (by omega) v1) | exact zup_s _ _ _ _ | rfl) ?_
  refine z_aload_n (pc := 4) dX1_append_4 rfl rfl ?_
  refine z_getIv (pc := 5) dX1_append_5 f_RX1_15 (by assumption) rfl (by first | assumption | exact zup_v (by omega) v1 | exact zup_v (by omega) (zup_v (by omega) v1) | exact zup_s _ _ _ _ | rfl) ?_
  first | refine z_icmp_ltN (pc := 8) (tgt := 14) (by with_reducible rfl) (by with_reducible rfl) dX1_append_8 (by decide) (by omega) (by omega) (fun hb8 => ?_) (fun hb8 => ?_) | refine z_icmp_lt (pc := 8) (tgt := 14) dX1_append_8 (by decide) (fun hb8 => ?_) (fun hb8 => ?_)
  · skip
    refine z_aload_n (pc := 14) dX1_append_14 rfl rfl ?_
    refine z_getR (pc := 15) dX1_append_15 f_RX1_21 (by assumption) rfl ?_
    refine z_aload_n (pc := 18) dX1_append_18 rfl rfl ?_
    refine z_getIv (pc := 19) dX1_append_19 f_RX1_28 (by assumption) rfl (by first | assumption | exact zup_v (by omega) v1 | exact zup_v (by omega) (zup_v (by omega) v1) | exact zup_s _ _ _ _ | rfl) ?_
    refine z_iload_n (pc := 22) dX1_append_22 rfl rfl ?_
    refine z_iastore (pc := 23) dX1_append_23 (by assumption) (by with_reducible rfl) (by omega) (by decide) ?_
    refine z_aload_n (pc := 24) dX1_append_24 rfl rfl ?_
    refine z_getR (pc := 25) dX1_append_25 f_RX1_25 (by assumption) rfl ?_
    refine z_aload_n (pc := 28) dX1_append_28 rfl rfl ?_
    refine z_getIv (pc := 29) dX1_append_29 f_RX1_28 (by assumption) rfl (by first | assumption | exact zup_v (by omega) v1 | exact zup_v (by omega) (zup_v (by omega) v1) | exact zup_s _ _ _ _ | rfl) ?_
    refine z_iload_n (pc := 32) dX1_append_32 rfl rfl ?_
    refine z_iastore (pc := 33) dX1_append_33 (by assumption) (by with_reducible rfl) (by omega) (by decide) ?_
    refine z_aload_n (pc := 34) dX1_append_34 rfl rfl ?_
    refine z_dup (pc := 35) dX1_append_35 rfl ?_
    refine z_getIv (pc := 36) dX1_append_36 f_RX1_28 (by assumption) rfl (by first | assumption | exact zup_v (by omega) v1 | exact zup_v (by omega) (zup_v (by omega) v1) | exact zup_s _ _ _ _ | rfl) ?_
    refine z_iconst (pc := 39) (v := nI 1) dX1_append_39 (by decide) ?_
    first | refine z_iaddN (pc := 40) (by with_reducible rfl) (by with_reducible rfl) dX1_append_40 ?_ | refine z_iadd (pc := 40) dX1_append_40 ?_
    refine z_putI (pc := 41) dX1_append_41 f_RX1_28 (by assumption) rfl ?_
    refine z_aload_n (pc := 44) dX1_append_44 rfl rfl ?_
    refine z_getIv (pc := 45) dX1_append_45 f_RX1_28 (by assumption) rfl (by first | assumption | exact zup_v (by omega) v1 | exact zup_v (by omega) (zup_v (by omega) v1) | exact zup_s _ _ _ _ | rfl) ?_
    refine z_iret (pc := 48) dX1_append_48 rfl ?_
    first | exact ⟨Or.inl ⟨rfl, by omega, rfl⟩, rfl⟩ | exact ⟨Or.inr ⟨rfl, by omega, rfl⟩, rfl⟩ | fail
  · skip
    refine z_bipush (pc := 11) (v := -4) dX1_append_11 (by decide) ?_
    refine z_iret (pc := 13) dX1_append_13 rfl ?_
    first | exact ⟨Or.inl ⟨rfl, by omega, rfl⟩, rfl⟩ | exact ⟨Or.inr ⟨rfl, by omega, rfl⟩, rfl⟩ | fail
set_option maxHeartbeats 2000000 in
set_option maxRecDepth 20000 in
theorem c_X1_append8 {lay : List zL} {I : zI} {J : zJ} {a c x y : Nat} {f g : Nat → Nat} (hN : kN lay a 8) (hV : vN I a 8 c f g) : zMet lay MX1_append 0 [.ref a, .int (nI x), .int (nI y)] I J (fun r I' J' => ((r = .int (-4) ∧ c = 8 ∧ I = I') ∨ (r = .int (nI (c + 1)) ∧ c < 8 ∧ I' = zup (zup (zup I (a + 1) c (nI x)) (a + 2) c (nI y)) a 1 (nI (c + 1)))) ∧ J = J') := by
  refine zMet_of (t := MX1_append) (ls := [.ref a, .int (nI x), .int (nI y)]) (by decide +kernel) (Nat.le_of_ble_eq_true rfl) rfl ?_
  obtain ⟨h1, h2, h3⟩ := id hN
  obtain ⟨v0, v1, v2, v3, v4⟩ := id hV
  refine z_aload_n (pc := 0) dX1_append_0 rfl rfl ?_
  refine z_getIv (pc := 1) dX1_append_1 f_RX1_28 (by assumption) rfl (by first | assumption | exact zup_v (by omega) v1 | exact zup_v (by omega) (zup_v (by omega) v1) | exact zup_s _ _ _ _ | rfl) ?_
  refine z_aload_n (pc := 4) dX1_append_4 rfl rfl ?_
  refine z_getIv (pc := 5) dX1_append_5 f_RX1_15 (by assumption) rfl (by first | assumption | exact zup_v (by omega) v1 | exact zup_v (by omega) (zup_v (by omega) v1) | exact zup_s _ _ _ _ | rfl) ?_
  first | refine z_icmp_ltN (pc := 8) (tgt := 14) (by with_reducible rfl) (by with_reducible rfl) dX1_append_8 (by decide) (by omega) (by omega) (fun hb8 => ?_) (fun hb8 => ?_) | refine z_icmp_lt (pc := 8) (tgt := 14) dX1_append_8 (by decide) (fun hb8 => ?_) (fun hb8 => ?_)
  · skip
    refine z_aload_n (pc := 14) dX1_append_14 rfl rfl ?_
    refine z_getR (pc := 15) dX1_append_15 f_RX1_21 (by assumption) rfl ?_
    refine z_aload_n (pc := 18) dX1_append_18 rfl rfl ?_
    refine z_getIv (pc := 19) dX1_append_19 f_RX1_28 (by assumption) rfl (by first | assumption | exact zup_v (by omega) v1 | exact zup_v (by omega) (zup_v (by omega) v1) | exact zup_s _ _ _ _ | rfl) ?_
    refine z_iload_n (pc := 22) dX1_append_22 rfl rfl ?_
    refine z_iastore (pc := 23) dX1_append_23 (by assumption) (by with_reducible rfl) (by omega) (by decide) ?_
    refine z_aload_n (pc := 24) dX1_append_24 rfl rfl ?_
    refine z_getR (pc := 25) dX1_append_25 f_RX1_25 (by assumption) rfl ?_
    refine z_aload_n (pc := 28) dX1_append_28 rfl rfl ?_
    refine z_getIv (pc := 29) dX1_append_29 f_RX1_28 (by assumption) rfl (by first | assumption | exact zup_v (by omega) v1 | exact zup_v (by omega) (zup_v (by omega) v1) | exact zup_s _ _ _ _ | rfl) ?_
    refine z_iload_n (pc := 32) dX1_append_32 rfl rfl ?_
    refine z_iastore (pc := 33) dX1_append_33 (by assumption) (by with_reducible rfl) (by omega) (by decide) ?_
    refine z_aload_n (pc := 34) dX1_append_34 rfl rfl ?_
    refine z_dup (pc := 35) dX1_append_35 rfl ?_
    refine z_getIv (pc := 36) dX1_append_36 f_RX1_28 (by assumption) rfl (by first | assumption | exact zup_v (by omega) v1 | exact zup_v (by omega) (zup_v (by omega) v1) | exact zup_s _ _ _ _ | rfl) ?_
    refine z_iconst (pc := 39) (v := nI 1) dX1_append_39 (by decide) ?_
    first | refine z_iaddN (pc := 40) (by with_reducible rfl) (by with_reducible rfl) dX1_append_40 ?_ | refine z_iadd (pc := 40) dX1_append_40 ?_
    refine z_putI (pc := 41) dX1_append_41 f_RX1_28 (by assumption) rfl ?_
    refine z_aload_n (pc := 44) dX1_append_44 rfl rfl ?_
    refine z_getIv (pc := 45) dX1_append_45 f_RX1_28 (by assumption) rfl (by first | assumption | exact zup_v (by omega) v1 | exact zup_v (by omega) (zup_v (by omega) v1) | exact zup_s _ _ _ _ | rfl) ?_
    refine z_iret (pc := 48) dX1_append_48 rfl ?_
    first | exact ⟨Or.inl ⟨rfl, by omega, rfl⟩, rfl⟩ | exact ⟨Or.inr ⟨rfl, by omega, rfl⟩, rfl⟩ | fail
  · skip
    refine z_bipush (pc := 11) (v := -4) dX1_append_11 (by decide) ?_
    refine z_iret (pc := 13) dX1_append_13 rfl ?_
    first | exact ⟨Or.inl ⟨rfl, by omega, rfl⟩, rfl⟩ | exact ⟨Or.inr ⟨rfl, by omega, rfl⟩, rfl⟩ | fail
theorem vN_app {I : zI} {a e c x y : Nat} {f g f' g' : Nat → Nat} (h : vN I a e c f g) (hc : c < e) (hf : ∀ k, k < c → f' k = f k) (hg : ∀ k, k < c → g' k = g k) (hx : f' c = x) (hy : g' c = y) : vN (zup (zup (zup I (a + 1) c (nI x)) (a + 2) c (nI y)) a 1 (nI (c + 1))) a e (c + 1) f' g' := by
  obtain ⟨v0, v1, v2, v3, v4⟩ := h
  refine ⟨?_, zup_s _ _ _ _, by omega, fun k hk => ?_, fun k hk => ?_⟩
  · rw [zup_n _ _ (by omega), zup_o (by omega), zup_o (by omega)]; exact v0
  · rw [zup_o (by omega), zup_o (by omega), zup_a]
    show (if k = c then _ else I (a + 1) k) = _
    by_cases q : k = c
    · rw [if_pos q, q, hx]
    · rw [if_neg q, hf k (by omega)]; exact v3 k (by omega)
  · rw [zup_o (by omega), zup_a]
    show (if k = c then _ else (zup I (a + 1) c (nI x)) (a + 2) k) = _
    by_cases q : k = c
    · rw [if_pos q, q, hy]
    · rw [if_neg q, hg k (by omega), zup_o (by omega)]; exact v4 k (by omega)
def znI (I0 : zI) (a o m : Nat) (I : zI) : Prop := I a = I0 a ∧ (∀ k, k < m → I (a + 1) k = I0 (o + 1) k) ∧ (∀ k, k < m → I (a + 2) k = I0 (o + 2) k) ∧ ∀ x, (x < a ∨ a + 2 < x) → I x = I0 x
theorem znI_step {I0 I : zI} {a o k : Nat} (h : znI I0 a o k I) {u w : Int32} (hu : u = I0 (o + 1) k) (hw : w = I0 (o + 2) k) : znI I0 a o (k + 1) (zup (zup I (a + 1) k u) (a + 2) k w) := by
  obtain ⟨h0, h1, h2, h3⟩ := h
  refine ⟨?_, fun y hy => ?_, fun y hy => ?_, fun x hx => ?_⟩
  · rw [zup_o (by omega), zup_o (by omega)]; exact h0
  · rw [zup_o (by omega), zup_a]
    show (if y = k then _ else I (a + 1) y) = _
    by_cases q : y = k
    · rw [if_pos q, q, hu]
    · rw [if_neg q]; exact h1 y (by omega)
  · rw [zup_a]
    show (if y = k then _ else (zup I (a + 1) k u) (a + 2) y) = _
    by_cases q : y = k
    · rw [if_pos q, q, hw]
    · rw [if_neg q, zup_o (by omega)]; exact h2 y (by omega)
  · rw [zup_o (by omega), zup_o (by omega)]; exact h3 x hx
set_option maxHeartbeats 2000000 in
set_option maxRecDepth 20000 in
theorem l_X1_copyFrom5 {lay : List zL} {Q : Value → zI → zJ → Prop} {J : zJ} {d a o c : Nat} {I0 : zI} (hN : kN lay a 5) (hO : kN lay o 5) (hao : a + 2 < o ∨ o + 2 < a) (hc : c ≤ 5) (h1 : I0 a 1 = nI c) : ∀ (m k : Nat) (I : zI), k + m = c → znI I0 a o k I → (∀ I', znI I0 a o c I' → Q .null I' J) → Z lay MX1_copyFrom d 17 [.ref a, .ref o, .int (nI k)] [] I J Q := by
  obtain ⟨k1, k2, k3⟩ := hN
  obtain ⟨o1, o2, o3⟩ := hO
  intro m
  induction m with
  | zero =>
    intro k I hk h hq
    obtain rfl : k = c := (by omega)
    have hc1 : I a 1 = nI k := by rw [h.1]; exact h1
    refine z_iload_n (pc := 17) dX1_copyFrom_17 rfl rfl ?_
    refine z_aload_n (pc := 18) dX1_copyFrom_18 rfl rfl ?_
    refine z_getIv (pc := 19) dX1_copyFrom_19 f_RX1_28 (by assumption) rfl (by first | assumption | rfl) ?_
    first | refine z_icmp_geN (pc := 22) (tgt := 55) (by with_reducible rfl) (by with_reducible rfl) dX1_copyFrom_22 (by decide) (by omega) (by omega) (fun hb22 => ?_) (fun hb22 => absurd hb22 (by omega)) | refine z_icmp_ge (pc := 22) (tgt := 55) dX1_copyFrom_22 (by decide) (fun hb22 => ?_) (fun hb22 => absurd hb22 (by omega))
    · skip
      refine z_vret (pc := 55) dX1_copyFrom_55 rfl ?_
      exact hq _ h
  | succ m ih =>
    intro k I hk h hq
    have hc1 : I a 1 = nI c := by rw [h.1]; exact h1
    refine z_iload_n (pc := 17) dX1_copyFrom_17 rfl rfl ?_
    refine z_aload_n (pc := 18) dX1_copyFrom_18 rfl rfl ?_
    refine z_getIv (pc := 19) dX1_copyFrom_19 f_RX1_28 (by assumption) rfl (by first | assumption | rfl) ?_
    first | refine z_icmp_geN (pc := 22) (tgt := 55) (by with_reducible rfl) (by with_reducible rfl) dX1_copyFrom_22 (by decide) (by omega) (by omega) (fun hb22 => absurd hb22 (by omega)) (fun hb22 => ?_) | refine z_icmp_ge (pc := 22) (tgt := 55) dX1_copyFrom_22 (by decide) (fun hb22 => absurd hb22 (by omega)) (fun hb22 => ?_)
    · skip
      refine z_aload_n (pc := 25) dX1_copyFrom_25 rfl rfl ?_
      refine z_getR (pc := 26) dX1_copyFrom_26 f_RX1_21 (by assumption) rfl ?_
      refine z_iload_n (pc := 29) dX1_copyFrom_29 rfl rfl ?_
      refine z_aload_n (pc := 30) dX1_copyFrom_30 rfl rfl ?_
      refine z_getR (pc := 31) dX1_copyFrom_31 f_RX1_21 (by assumption) rfl ?_
      refine z_iload_n (pc := 34) dX1_copyFrom_34 rfl rfl ?_
      refine z_ialoadv (pc := 35) dX1_copyFrom_35 (by assumption) (by with_reducible rfl) (by omega) (by decide) (by first | assumption | rfl) ?_
      refine z_iastore (pc := 36) dX1_copyFrom_36 (by assumption) (by with_reducible rfl) (by omega) (by decide) ?_
      refine z_aload_n (pc := 37) dX1_copyFrom_37 rfl rfl ?_
      refine z_getR (pc := 38) dX1_copyFrom_38 f_RX1_25 (by assumption) rfl ?_
      refine z_iload_n (pc := 41) dX1_copyFrom_41 rfl rfl ?_
      refine z_aload_n (pc := 42) dX1_copyFrom_42 rfl rfl ?_
      refine z_getR (pc := 43) dX1_copyFrom_43 f_RX1_25 (by assumption) rfl ?_
      refine z_iload_n (pc := 46) dX1_copyFrom_46 rfl rfl ?_
      refine z_ialoadv (pc := 47) dX1_copyFrom_47 (by assumption) (by with_reducible rfl) (by omega) (by decide) (by first | assumption | rfl) ?_
      refine z_iastore (pc := 48) dX1_copyFrom_48 (by assumption) (by with_reducible rfl) (by omega) (by decide) ?_
      first | refine z_iincN (pc := 49) (c := 1) dX1_copyFrom_49 rfl (by with_reducible rfl) (by decide) (by decide) rfl ?_ | refine z_iinc (pc := 49) dX1_copyFrom_49 rfl rfl (by decide) rfl ?_
      try dsimp only [zst1, zst2, zk]
      refine z_goto (pc := 52) (tgt := 17) dX1_copyFrom_52 (by decide) ?_
      exact ih (k + 1) _ (by omega) (znI_step h (by rw [h.2.2.2 (o + 1) (by omega)]) (by rw [zup_o (by omega), h.2.2.2 (o + 2) (by omega)])) hq
set_option maxHeartbeats 2000000 in
set_option maxRecDepth 20000 in
theorem c_X1_copyFrom5 {lay : List zL} {I : zI} {J : zJ} {a o c : Nat} {f g : Nat → Nat} (hN : kN lay a 5) (hO : kN lay o 5) (hV : vN I o 5 c f g) (hA : I a 0 = nI 5) (hao : a + 2 < o ∨ o + 2 < a) : zMet lay MX1_copyFrom 1 [.ref a, .ref o] I J (fun r I' J' => r = .null ∧ (vN I' a 5 c f g ∧ ∀ x, (x < a ∨ a + 2 < x) → I' x = I x) ∧ J = J') := by
  refine zMet_of (t := MX1_copyFrom) (ls := [.ref a, .ref o, .null]) (by decide +kernel) (Nat.le_of_ble_eq_true rfl) rfl ?_
  obtain ⟨k1, k2, k3⟩ := id hN
  obtain ⟨o1, o2, o3⟩ := id hO
  obtain ⟨v0, v1, v2, v3, v4⟩ := id hV
  refine z_aload_n (pc := 0) dX1_copyFrom_0 rfl rfl ?_
  refine z_aload_n (pc := 1) dX1_copyFrom_1 rfl rfl ?_
  refine z_getIv (pc := 2) dX1_copyFrom_2 f_RX1_28 (by assumption) rfl (by first | assumption | rfl) ?_
  refine z_aload_n (pc := 5) dX1_copyFrom_5 rfl rfl ?_
  refine z_getIv (pc := 6) dX1_copyFrom_6 f_RX1_15 (by assumption) rfl (by first | assumption | rfl) ?_
  refine z_mmin (pc := 9) dX1_copyFrom_9 l_RX1_31 (by with_reducible rfl) (by with_reducible rfl) (by omega) (by omega) (by omega) (Nat.le_of_ble_eq_true rfl) ?_
  refine z_putI (pc := 12) dX1_copyFrom_12 f_RX1_28 (by assumption) rfl ?_
  refine z_iconst (pc := 15) (v := nI 0) dX1_copyFrom_15 (by decide) ?_
  refine z_istore_n (pc := 16) dX1_copyFrom_16 rfl (by decide) rfl ?_
  try dsimp only [zst1, zst2, zk]
  rw [Nat.min_eq_left v2]
  refine l_X1_copyFrom5 (I0 := zup I a 1 (nI c)) hN hO hao v2 (zup_s _ _ _ _) c 0 _ (Nat.zero_add _) ⟨rfl, fun k hk => by omega, fun k hk => by omega, fun _ _ => rfl⟩ (fun I' h => ⟨rfl, ⟨⟨?_, ?_, v2, fun k hk => ?_, fun k hk => ?_⟩, fun x hx => ?_⟩, rfl⟩)
  · rw [h.1, zup_n _ _ (by omega)]; exact hA
  · rw [h.1]; exact zup_s _ _ _ _
  · rw [h.2.1 k hk, zup_o (by omega)]; exact v3 k hk
  · rw [h.2.2.1 k hk, zup_o (by omega)]; exact v4 k hk
  · rw [h.2.2.2 x hx, zup_o (by omega)]
set_option maxHeartbeats 2000000 in
set_option maxRecDepth 20000 in
theorem l_X1_copyFrom8 {lay : List zL} {Q : Value → zI → zJ → Prop} {J : zJ} {d a o c : Nat} {I0 : zI} (hN : kN lay a 8) (hO : kN lay o 8) (hao : a + 2 < o ∨ o + 2 < a) (hc : c ≤ 8) (h1 : I0 a 1 = nI c) : ∀ (m k : Nat) (I : zI), k + m = c → znI I0 a o k I → (∀ I', znI I0 a o c I' → Q .null I' J) → Z lay MX1_copyFrom d 17 [.ref a, .ref o, .int (nI k)] [] I J Q := by
  obtain ⟨k1, k2, k3⟩ := hN
  obtain ⟨o1, o2, o3⟩ := hO
  intro m
  induction m with
  | zero =>
    intro k I hk h hq
    obtain rfl : k = c := (by omega)
    have hc1 : I a 1 = nI k := by rw [h.1]; exact h1
    refine z_iload_n (pc := 17) dX1_copyFrom_17 rfl rfl ?_
    refine z_aload_n (pc := 18) dX1_copyFrom_18 rfl rfl ?_
    refine z_getIv (pc := 19) dX1_copyFrom_19 f_RX1_28 (by assumption) rfl (by first | assumption | rfl) ?_
    first | refine z_icmp_geN (pc := 22) (tgt := 55) (by with_reducible rfl) (by with_reducible rfl) dX1_copyFrom_22 (by decide) (by omega) (by omega) (fun hb22 => ?_) (fun hb22 => absurd hb22 (by omega)) | refine z_icmp_ge (pc := 22) (tgt := 55) dX1_copyFrom_22 (by decide) (fun hb22 => ?_) (fun hb22 => absurd hb22 (by omega))
    · skip
      refine z_vret (pc := 55) dX1_copyFrom_55 rfl ?_
      exact hq _ h
  | succ m ih =>
    intro k I hk h hq
    have hc1 : I a 1 = nI c := by rw [h.1]; exact h1
    refine z_iload_n (pc := 17) dX1_copyFrom_17 rfl rfl ?_
    refine z_aload_n (pc := 18) dX1_copyFrom_18 rfl rfl ?_
    refine z_getIv (pc := 19) dX1_copyFrom_19 f_RX1_28 (by assumption) rfl (by first | assumption | rfl) ?_
    first | refine z_icmp_geN (pc := 22) (tgt := 55) (by with_reducible rfl) (by with_reducible rfl) dX1_copyFrom_22 (by decide) (by omega) (by omega) (fun hb22 => absurd hb22 (by omega)) (fun hb22 => ?_) | refine z_icmp_ge (pc := 22) (tgt := 55) dX1_copyFrom_22 (by decide) (fun hb22 => absurd hb22 (by omega)) (fun hb22 => ?_)
    · skip
      refine z_aload_n (pc := 25) dX1_copyFrom_25 rfl rfl ?_
      refine z_getR (pc := 26) dX1_copyFrom_26 f_RX1_21 (by assumption) rfl ?_
      refine z_iload_n (pc := 29) dX1_copyFrom_29 rfl rfl ?_
      refine z_aload_n (pc := 30) dX1_copyFrom_30 rfl rfl ?_
      refine z_getR (pc := 31) dX1_copyFrom_31 f_RX1_21 (by assumption) rfl ?_
      refine z_iload_n (pc := 34) dX1_copyFrom_34 rfl rfl ?_
      refine z_ialoadv (pc := 35) dX1_copyFrom_35 (by assumption) (by with_reducible rfl) (by omega) (by decide) (by first | assumption | rfl) ?_
      refine z_iastore (pc := 36) dX1_copyFrom_36 (by assumption) (by with_reducible rfl) (by omega) (by decide) ?_
      refine z_aload_n (pc := 37) dX1_copyFrom_37 rfl rfl ?_
      refine z_getR (pc := 38) dX1_copyFrom_38 f_RX1_25 (by assumption) rfl ?_
      refine z_iload_n (pc := 41) dX1_copyFrom_41 rfl rfl ?_
      refine z_aload_n (pc := 42) dX1_copyFrom_42 rfl rfl ?_
      refine z_getR (pc := 43) dX1_copyFrom_43 f_RX1_25 (by assumption) rfl ?_
      refine z_iload_n (pc := 46) dX1_copyFrom_46 rfl rfl ?_
      refine z_ialoadv (pc := 47) dX1_copyFrom_47 (by assumption) (by with_reducible rfl) (by omega) (by decide) (by first | assumption | rfl) ?_
      refine z_iastore (pc := 48) dX1_copyFrom_48 (by assumption) (by with_reducible rfl) (by omega) (by decide) ?_
      first | refine z_iincN (pc := 49) (c := 1) dX1_copyFrom_49 rfl (by with_reducible rfl) (by decide) (by decide) rfl ?_ | refine z_iinc (pc := 49) dX1_copyFrom_49 rfl rfl (by decide) rfl ?_
      try dsimp only [zst1, zst2, zk]
      refine z_goto (pc := 52) (tgt := 17) dX1_copyFrom_52 (by decide) ?_
      exact ih (k + 1) _ (by omega) (znI_step h (by rw [h.2.2.2 (o + 1) (by omega)]) (by rw [zup_o (by omega), h.2.2.2 (o + 2) (by omega)])) hq
set_option maxHeartbeats 2000000 in
set_option maxRecDepth 20000 in
theorem c_X1_copyFrom8 {lay : List zL} {I : zI} {J : zJ} {a o c : Nat} {f g : Nat → Nat} (hN : kN lay a 8) (hO : kN lay o 8) (hV : vN I o 8 c f g) (hA : I a 0 = nI 8) (hao : a + 2 < o ∨ o + 2 < a) : zMet lay MX1_copyFrom 1 [.ref a, .ref o] I J (fun r I' J' => r = .null ∧ (vN I' a 8 c f g ∧ ∀ x, (x < a ∨ a + 2 < x) → I' x = I x) ∧ J = J') := by
  refine zMet_of (t := MX1_copyFrom) (ls := [.ref a, .ref o, .null]) (by decide +kernel) (Nat.le_of_ble_eq_true rfl) rfl ?_
  obtain ⟨k1, k2, k3⟩ := id hN
  obtain ⟨o1, o2, o3⟩ := id hO
  obtain ⟨v0, v1, v2, v3, v4⟩ := id hV
  refine z_aload_n (pc := 0) dX1_copyFrom_0 rfl rfl ?_
  refine z_aload_n (pc := 1) dX1_copyFrom_1 rfl rfl ?_
  refine z_getIv (pc := 2) dX1_copyFrom_2 f_RX1_28 (by assumption) rfl (by first | assumption | rfl) ?_
  refine z_aload_n (pc := 5) dX1_copyFrom_5 rfl rfl ?_
  refine z_getIv (pc := 6) dX1_copyFrom_6 f_RX1_15 (by assumption) rfl (by first | assumption | rfl) ?_
  refine z_mmin (pc := 9) dX1_copyFrom_9 l_RX1_31 (by with_reducible rfl) (by with_reducible rfl) (by omega) (by omega) (by omega) (Nat.le_of_ble_eq_true rfl) ?_
  refine z_putI (pc := 12) dX1_copyFrom_12 f_RX1_28 (by assumption) rfl ?_
  refine z_iconst (pc := 15) (v := nI 0) dX1_copyFrom_15 (by decide) ?_
  refine z_istore_n (pc := 16) dX1_copyFrom_16 rfl (by decide) rfl ?_
  try dsimp only [zst1, zst2, zk]
  rw [Nat.min_eq_left v2]
  refine l_X1_copyFrom8 (I0 := zup I a 1 (nI c)) hN hO hao v2 (zup_s _ _ _ _) c 0 _ (Nat.zero_add _) ⟨rfl, fun k hk => by omega, fun k hk => by omega, fun _ _ => rfl⟩ (fun I' h => ⟨rfl, ⟨⟨?_, ?_, v2, fun k hk => ?_, fun k hk => ?_⟩, fun x hx => ?_⟩, rfl⟩)
  · rw [h.1, zup_n _ _ (by omega)]; exact hA
  · rw [h.1]; exact zup_s _ _ _ _
  · rw [h.2.1 k hk, zup_o (by omega)]; exact v3 k hk
  · rw [h.2.2.1 k hk, zup_o (by omega)]; exact v4 k hk
  · rw [h.2.2.2 x hx, zup_o (by omega)]
