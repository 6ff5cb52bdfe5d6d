/-! ===== tapes ===== -/
def kQ (lay : List zL) (q : Nat) : Prop := lay[q]? = some (.inl (8, [q + 3, q + 4, q + 5])) ∧ lay[q + 1]? = some (.inr (.inr (.inr [q + 4, q + 5, q + 6, q + 7, q + 8, q + 9]))) ∧ lay[q + 2]? = some (.inr (.inl 6)) ∧ lay[q + 3]? = some (.inr (.inl 6)) ∧ ∀ t, t < 6 → lay[q + 4 + t]? = some (.inr (.inr (.inl 60)))
theorem zrow6 {q t : Nat} (h : t < 6) : [q + 4, q + 5, q + 6, q + 7, q + 8, q + 9][t]? = some (q + 4 + t) := by
  rcases (show t = 0 ∨ t = 1 ∨ t = 2 ∨ t = 3 ∨ t = 4 ∨ t = 5 by omega) with rfl | rfl | rfl | rfl | rfl | rfl <;> rfl
/-- what the tapes hold: sorts, lengths, items (by tape and place) -/
def vQ (I : zI) (J : zJ) (q : Nat) (so : Nat → Int32) (le : Nat → Nat) (it : Nat → Nat → Int64) : Prop := (∀ t, t < 6 → I (q + 2) t = so t) ∧ (∀ t, t < 6 → I (q + 3) t = nI (le t)) ∧ (∀ t i, t < 6 → i < le t → J (q + 4 + t) i = it t i) ∧ ∀ t, t < 6 → le t ≤ 60 ∧ (so t = -1 → le t = 0)
def isT (t : Int32) : Prop := ∃ a, t = nI a ∧ a < 6
def zcut (so : Int32) (v : Int64) : Int64 := if so = nI 0 then v.toInt32.toInt8.toInt32.toInt64 else if so = nI 1 then v.toInt32.toInt16.toInt32.toInt64 else if so = nI 2 then v.toInt32.toInt64 else if so = nI 4 then (if v = lN 0 then lN 0 else lN 1) else v
set_option maxHeartbeats 2000000 in
set_option maxRecDepth 20000 in
theorem c_X8_hasTape {lay : List zL} {I : zI} {J : zJ} {q : Nat} {t : Int32} : zMet lay MX8_hasTape 0 [.ref q, .int t] I J (fun r I' J' => ((r = .int (nI 1) ∧ isT t) ∨ (r = .int (nI 0) ∧ ¬ isT t)) ∧ I = I' ∧ J = J') := by
  refine zMet_of (t := MX8_hasTape) (ls := [.ref q, .int t]) (by decide +kernel) (Nat.le_of_ble_eq_true rfl) rfl ?_
  refine z_iload_n (pc := 0) dX8_hasTape_0 rfl rfl ?_
  first | refine z_if_ltN (pc := 1) (tgt := 14) (by with_reducible rfl) dX8_hasTape_1 (by decide) (by omega) (fun hb1 => ?_) (fun hb1 => ?_) | refine z_if_lt (pc := 1) (tgt := 14) dX8_hasTape_1 (by decide) (fun hb1 => ?_) (fun hb1 => ?_)
  · skip
    refine z_iconst (pc := 14) (v := nI 0) dX8_hasTape_14 (by decide) ?_
    refine z_zret (pc := 15) dX8_hasTape_15 rfl (by first | decide | assumption) ?_
    refine ⟨Or.inr ⟨rfl, ?_⟩, rfl, rfl⟩
    rintro ⟨a, rfl, h⟩
    exact nI_pos (by omega) hb1
  · skip
    refine z_iload_n (pc := 4) dX8_hasTape_4 rfl rfl ?_
    refine z_bipush (pc := 5) (v := nI 6) dX8_hasTape_5 (by decide) ?_
    first | refine z_icmp_geN (pc := 7) (tgt := 14) (by with_reducible rfl) (by with_reducible rfl) dX8_hasTape_7 (by decide) (by omega) (by omega) (fun hb7 => ?_) (fun hb7 => ?_) | refine z_icmp_ge (pc := 7) (tgt := 14) dX8_hasTape_7 (by decide) (fun hb7 => ?_) (fun hb7 => ?_)
    · skip
      refine z_iconst (pc := 14) (v := nI 0) dX8_hasTape_14 (by decide) ?_
      refine z_zret (pc := 15) dX8_hasTape_15 rfl (by first | decide | assumption) ?_
      refine ⟨Or.inr ⟨rfl, ?_⟩, rfl, rfl⟩
      rintro ⟨a, rfl, h⟩
      exact absurd ((nI_leI (by omega) (by omega)).mp hb7) (by omega)
    · skip
      refine z_iconst (pc := 10) (v := nI 1) dX8_hasTape_10 (by decide) ?_
      refine z_goto (pc := 11) (tgt := 15) dX8_hasTape_11 (by decide) ?_
      refine z_zret (pc := 15) dX8_hasTape_15 rfl (by first | decide | assumption) ?_
      obtain ⟨a, e, h⟩ := nI_get (m := 6) (by omega) hb1 hb7
      exact ⟨Or.inl ⟨rfl, a, e, h⟩, rfl, rfl⟩
set_option maxHeartbeats 2000000 in
set_option maxRecDepth 20000 in
theorem c_X8_holds {lay : List zL} {I : zI} {J : zJ} {q : Nat} {so : Nat → Int32} {le : Nat → Nat} {it : Nat → Nat → Int64} (hQ : kQ lay q) (hV : vQ I J q so le it) {t : Nat} (ht : t < 6) : zMet lay MX8_holds 0 [.ref q, .int (nI t)] I J (fun r I' J' => ((r = .int (nI 1) ∧ so t ≠ -1) ∨ (r = .int (nI 0) ∧ so t = -1)) ∧ I = I' ∧ J = J') := by
  refine zMet_of (t := MX8_holds) (ls := [.ref q, .int (nI t)]) (by decide +kernel) (Nat.le_of_ble_eq_true rfl) rfl ?_
  obtain ⟨k1, k2, k3, k4, k5⟩ := id hQ
  obtain ⟨v0, v1, v2, v3⟩ := id hV
  refine z_aload_n (pc := 0) dX8_holds_0 rfl rfl ?_
  refine z_getR (pc := 1) dX8_holds_1 f_RX8_14 (by assumption) rfl ?_
  refine z_iload_n (pc := 4) dX8_holds_4 rfl rfl ?_
  refine z_ialoadv (pc := 5) dX8_holds_5 (by assumption) (by with_reducible rfl) (by omega) (by decide) (by first | assumption | exact v0 _ (by omega) | exact v1 _ (by omega) | rfl) ?_
  refine z_iconst (pc := 6) (v := -1) dX8_holds_6 (by decide) ?_
  refine z_icmp_eq (pc := 7) (tgt := 14) dX8_holds_7 (by decide) (fun hb7 => ?_) (fun hb7 => ?_)
  · skip
    refine z_iconst (pc := 14) (v := nI 0) dX8_holds_14 (by decide) ?_
    refine z_zret (pc := 15) dX8_holds_15 rfl (by first | decide | assumption) ?_
    exact ⟨Or.inr ⟨rfl, hb7⟩, rfl, rfl⟩
  · skip
    refine z_iconst (pc := 10) (v := nI 1) dX8_holds_10 (by decide) ?_
    refine z_goto (pc := 11) (tgt := 15) dX8_holds_11 (by decide) ?_
    refine z_zret (pc := 15) dX8_holds_15 rfl (by first | decide | assumption) ?_
    exact ⟨Or.inl ⟨rfl, hb7⟩, rfl, rfl⟩
set_option maxHeartbeats 2000000 in
set_option maxRecDepth 20000 in
theorem c_X8_isOfInts {lay : List zL} {I : zI} {J : zJ} {q : Nat} {so : Nat → Int32} {le : Nat → Nat} {it : Nat → Nat → Int64} (hQ : kQ lay q) (hV : vQ I J q so le it) {t : Nat} (ht : t < 6) : zMet lay MX8_isOfInts 0 [.ref q, .int (nI t)] I J (fun r I' J' => ((r = .int (nI 1) ∧ so t = nI 2) ∨ (r = .int (nI 0) ∧ so t ≠ nI 2)) ∧ I = I' ∧ J = J') := by
  refine zMet_of (t := MX8_isOfInts) (ls := [.ref q, .int (nI t)]) (by decide +kernel) (Nat.le_of_ble_eq_true rfl) rfl ?_
  obtain ⟨k1, k2, k3, k4, k5⟩ := id hQ
  obtain ⟨v0, v1, v2, v3⟩ := id hV
  refine z_aload_n (pc := 0) dX8_isOfInts_0 rfl rfl ?_
  refine z_getR (pc := 1) dX8_isOfInts_1 f_RX8_14 (by assumption) rfl ?_
  refine z_iload_n (pc := 4) dX8_isOfInts_4 rfl rfl ?_
  refine z_ialoadv (pc := 5) dX8_isOfInts_5 (by assumption) (by with_reducible rfl) (by omega) (by decide) (by first | assumption | exact v0 _ (by omega) | exact v1 _ (by omega) | rfl) ?_
  refine z_iconst (pc := 6) (v := nI 2) dX8_isOfInts_6 (by decide) ?_
  refine z_icmp_ne (pc := 7) (tgt := 14) dX8_isOfInts_7 (by decide) (fun hb7 => ?_) (fun hb7 => ?_)
  · skip
    refine z_iconst (pc := 14) (v := nI 0) dX8_isOfInts_14 (by decide) ?_
    refine z_zret (pc := 15) dX8_isOfInts_15 rfl (by first | decide | assumption) ?_
    exact ⟨Or.inr ⟨rfl, hb7⟩, rfl, rfl⟩
  · skip
    refine z_iconst (pc := 10) (v := nI 1) dX8_isOfInts_10 (by decide) ?_
    refine z_goto (pc := 11) (tgt := 15) dX8_isOfInts_11 (by decide) ?_
    refine z_zret (pc := 15) dX8_isOfInts_15 rfl (by first | decide | assumption) ?_
    exact ⟨Or.inl ⟨rfl, hb7⟩, rfl, rfl⟩
set_option maxHeartbeats 2000000 in
set_option maxRecDepth 20000 in
theorem c_X8_isAlike {lay : List zL} {I : zI} {J : zJ} {q : Nat} {so : Nat → Int32} {le : Nat → Nat} {it : Nat → Nat → Int64} (hQ : kQ lay q) (hV : vQ I J q so le it) {t u : Nat} (ht : t < 6) (hu : u < 6) : zMet lay MX8_isAlike 0 [.ref q, .int (nI t), .int (nI u)] I J (fun r I' J' => ((r = .int (nI 1) ∧ so t = so u) ∨ (r = .int (nI 0) ∧ so t ≠ so u)) ∧ I = I' ∧ J = J') := by
  refine zMet_of (t := MX8_isAlike) (ls := [.ref q, .int (nI t), .int (nI u)]) (by decide +kernel) (Nat.le_of_ble_eq_true rfl) rfl ?_
  obtain ⟨k1, k2, k3, k4, k5⟩ := id hQ
  obtain ⟨v0, v1, v2, v3⟩ := id hV
  refine z_aload_n (pc := 0) dX8_isAlike_0 rfl rfl ?_
  refine z_getR (pc := 1) dX8_isAlike_1 f_RX8_14 (by assumption) rfl ?_
  refine z_iload_n (pc := 4) dX8_isAlike_4 rfl rfl ?_
  refine z_ialoadv (pc := 5) dX8_isAlike_5 (by assumption) (by with_reducible rfl) (by omega) (by decide) (by first | assumption | exact v0 _ (by omega) | exact v1 _ (by omega) | rfl) ?_
  refine z_aload_n (pc := 6) dX8_isAlike_6 rfl rfl ?_
  refine z_getR (pc := 7) dX8_isAlike_7 f_RX8_14 (by assumption) rfl ?_
  refine z_iload_n (pc := 10) dX8_isAlike_10 rfl rfl ?_
  refine z_ialoadv (pc := 11) dX8_isAlike_11 (by assumption) (by with_reducible rfl) (by omega) (by decide) (by first | assumption | exact v0 _ (by omega) | exact v1 _ (by omega) | rfl) ?_
  refine z_icmp_ne (pc := 12) (tgt := 19) dX8_isAlike_12 (by decide) (fun hb12 => ?_) (fun hb12 => ?_)
  · skip
    refine z_iconst (pc := 19) (v := nI 0) dX8_isAlike_19 (by decide) ?_
    refine z_zret (pc := 20) dX8_isAlike_20 rfl (by first | decide | assumption) ?_
    exact ⟨Or.inr ⟨rfl, hb12⟩, rfl, rfl⟩
  · skip
    refine z_iconst (pc := 15) (v := nI 1) dX8_isAlike_15 (by decide) ?_
    refine z_goto (pc := 16) (tgt := 20) dX8_isAlike_16 (by decide) ?_
    refine z_zret (pc := 20) dX8_isAlike_20 rfl (by first | decide | assumption) ?_
    exact ⟨Or.inl ⟨rfl, hb12⟩, rfl, rfl⟩
set_option maxHeartbeats 2000000 in
set_option maxRecDepth 20000 in
theorem c_X8_lengthOf {lay : List zL} {I : zI} {J : zJ} {q : Nat} {so : Nat → Int32} {le : Nat → Nat} {it : Nat → Nat → Int64} (hQ : kQ lay q) (hV : vQ I J q so le it) {t : Nat} (ht : t < 6) : zMet lay MX8_lengthOf 0 [.ref q, .int (nI t)] I J (fun r I' J' => r = .int (nI (le t)) ∧ I = I' ∧ J = J') := by
  refine zMet_of (t := MX8_lengthOf) (ls := [.ref q, .int (nI t)]) (by decide +kernel) (Nat.le_of_ble_eq_true rfl) rfl ?_
  obtain ⟨k1, k2, k3, k4, k5⟩ := id hQ
  obtain ⟨v0, v1, v2, v3⟩ := id hV
  refine z_aload_n (pc := 0) dX8_lengthOf_0 rfl rfl ?_
  refine z_getR (pc := 1) dX8_lengthOf_1 f_RX8_18 (by assumption) rfl ?_
  refine z_iload_n (pc := 4) dX8_lengthOf_4 rfl rfl ?_
  refine z_ialoadv (pc := 5) dX8_lengthOf_5 (by assumption) (by with_reducible rfl) (by omega) (by decide) (by first | assumption | exact v0 _ (by omega) | exact v1 _ (by omega) | rfl) ?_
  refine z_iret (pc := 6) dX8_lengthOf_6 rfl ?_
  exact ⟨rfl, rfl, rfl⟩
set_option maxHeartbeats 2000000 in
set_option maxRecDepth 20000 in
theorem c_X8_hasItem {lay : List zL} {I : zI} {J : zJ} {q : Nat} {so : Nat → Int32} {le : Nat → Nat} {it : Nat → Nat → Int64} (hQ : kQ lay q) (hV : vQ I J q so le it) {t : Nat} (ht : t < 6) {i : Int32} : zMet lay MX8_hasItem 0 [.ref q, .int (nI t), .int i] I J (fun r I' J' => ((r = .int (nI 1) ∧ ∃ a, i = nI a ∧ a < le t) ∨ (r = .int (nI 0) ∧ ¬ ∃ a, i = nI a ∧ a < le t)) ∧ I = I' ∧ J = J') := by
  refine zMet_of (t := MX8_hasItem) (ls := [.ref q, .int (nI t), .int i]) (by decide +kernel) (Nat.le_of_ble_eq_true rfl) rfl ?_
  obtain ⟨k1, k2, k3, k4, k5⟩ := id hQ
  obtain ⟨v0, v1, v2, v3⟩ := id hV
  have hl := (v3 t ht).1
  refine z_iload_n (pc := 0) dX8_hasItem_0 rfl rfl ?_
  first | refine z_if_ltN (pc := 1) (tgt := 18) (by with_reducible rfl) dX8_hasItem_1 (by decide) (by omega) (fun hb1 => ?_) (fun hb1 => ?_) | refine z_if_lt (pc := 1) (tgt := 18) dX8_hasItem_1 (by decide) (fun hb1 => ?_) (fun hb1 => ?_)
  · skip
    refine z_iconst (pc := 18) (v := nI 0) dX8_hasItem_18 (by decide) ?_
    refine z_zret (pc := 19) dX8_hasItem_19 rfl (by first | decide | assumption) ?_
    refine ⟨Or.inr ⟨rfl, ?_⟩, rfl, rfl⟩
    rintro ⟨a, rfl, h⟩
    exact nI_pos (by omega) hb1
  · skip
    refine z_iload_n (pc := 4) dX8_hasItem_4 rfl rfl ?_
    refine z_aload_n (pc := 5) dX8_hasItem_5 rfl rfl ?_
    refine z_getR (pc := 6) dX8_hasItem_6 f_RX8_18 (by assumption) rfl ?_
    refine z_iload_n (pc := 9) dX8_hasItem_9 rfl rfl ?_
    refine z_ialoadv (pc := 10) dX8_hasItem_10 (by assumption) (by with_reducible rfl) (by omega) (by decide) (by first | assumption | exact v0 _ (by omega) | exact v1 _ (by omega) | rfl) ?_
    first | refine z_icmp_geN (pc := 11) (tgt := 18) (by with_reducible rfl) (by with_reducible rfl) dX8_hasItem_11 (by decide) (by omega) (by omega) (fun hb11 => ?_) (fun hb11 => ?_) | refine z_icmp_ge (pc := 11) (tgt := 18) dX8_hasItem_11 (by decide) (fun hb11 => ?_) (fun hb11 => ?_)
    · skip
      refine z_iconst (pc := 18) (v := nI 0) dX8_hasItem_18 (by decide) ?_
      refine z_zret (pc := 19) dX8_hasItem_19 rfl (by first | decide | assumption) ?_
      refine ⟨Or.inr ⟨rfl, ?_⟩, rfl, rfl⟩
      rintro ⟨a, rfl, h⟩
      exact absurd ((nI_leI (by omega) (by omega)).mp hb11) (by omega)
    · skip
      refine z_iconst (pc := 14) (v := nI 1) dX8_hasItem_14 (by decide) ?_
      refine z_goto (pc := 15) (tgt := 19) dX8_hasItem_15 (by decide) ?_
      refine z_zret (pc := 19) dX8_hasItem_19 rfl (by first | decide | assumption) ?_
      obtain ⟨a, e, h⟩ := nI_get (m := le t) (by omega) hb1 hb11
      exact ⟨Or.inl ⟨rfl, a, e, h⟩, rfl, rfl⟩
def zits (le : Nat) (i n : Int32) : Prop := ∃ a b, i = nI a ∧ n = nI b ∧ a + b ≤ le
theorem nI_get2 {x : Int32} {m : Nat} (hm : m < 2147483647) (h0 : ¬ x < 0) (h1 : ¬ nI m < x) : ∃ a, x = nI a ∧ a ≤ m := by
  rcases pk_ix x (n := m + 1) (by omega) with h | h | ⟨j, h2, h3⟩
  · exact absurd h h0
  · refine absurd ?_ h1
    rw [Int32.lt_iff_toInt_lt]
    rw [Int32.le_iff_toInt_le] at h
    rw [nI_toInt (by omega)] at h ⊢
    omega
  · exact ⟨j, h3, by omega⟩
set_option maxHeartbeats 2000000 in
set_option maxRecDepth 20000 in
theorem c_X8_hasItems {lay : List zL} {I : zI} {J : zJ} {q : Nat} {so : Nat → Int32} {le : Nat → Nat} {it : Nat → Nat → Int64} (hQ : kQ lay q) (hV : vQ I J q so le it) {t : Nat} (ht : t < 6) {i n : Int32} : zMet lay MX8_hasItems 0 [.ref q, .int (nI t), .int i, .int n] I J (fun r I' J' => ((r = .int (nI 1) ∧ zits (le t) i n) ∨ (r = .int (nI 0) ∧ ¬ zits (le t) i n)) ∧ I = I' ∧ J = J') := by
  refine zMet_of (t := MX8_hasItems) (ls := [.ref q, .int (nI t), .int i, .int n]) (by decide +kernel) (Nat.le_of_ble_eq_true rfl) rfl ?_
  obtain ⟨k1, k2, k3, k4, k5⟩ := id hQ
  obtain ⟨v0, v1, v2, v3⟩ := id hV
  have hl := (v3 t ht).1
  refine z_iload_n (pc := 0) dX8_hasItems_0 rfl rfl ?_
  first | refine z_if_ltN (pc := 1) (tgt := 34) (by with_reducible rfl) dX8_hasItems_1 (by decide) (by omega) (fun hb1 => ?_) (fun hb1 => ?_) | refine z_if_lt (pc := 1) (tgt := 34) dX8_hasItems_1 (by decide) (fun hb1 => ?_) (fun hb1 => ?_)
  · skip
    refine z_iconst (pc := 34) (v := nI 0) dX8_hasItems_34 (by decide) ?_
    refine z_zret (pc := 35) dX8_hasItems_35 rfl (by first | decide | assumption) ?_
    refine ⟨Or.inr ⟨rfl, ?_⟩, rfl, rfl⟩
    rintro ⟨a, b, rfl, rfl, h⟩
    exact nI_pos (by omega) hb1
  · skip
    refine z_iload_n (pc := 4) dX8_hasItems_4 rfl rfl ?_
    first | refine z_if_ltN (pc := 5) (tgt := 34) (by with_reducible rfl) dX8_hasItems_5 (by decide) (by omega) (fun hb5 => ?_) (fun hb5 => ?_) | refine z_if_lt (pc := 5) (tgt := 34) dX8_hasItems_5 (by decide) (fun hb5 => ?_) (fun hb5 => ?_)
    · skip
      refine z_iconst (pc := 34) (v := nI 0) dX8_hasItems_34 (by decide) ?_
      refine z_zret (pc := 35) dX8_hasItems_35 rfl (by first | decide | assumption) ?_
      refine ⟨Or.inr ⟨rfl, ?_⟩, rfl, rfl⟩
      rintro ⟨a, b, rfl, rfl, h⟩
      exact nI_pos (by omega) hb5
    · skip
      refine z_iload_n (pc := 8) dX8_hasItems_8 rfl rfl ?_
      refine z_aload_n (pc := 9) dX8_hasItems_9 rfl rfl ?_
      refine z_getR (pc := 10) dX8_hasItems_10 f_RX8_18 (by assumption) rfl ?_
      refine z_iload_n (pc := 13) dX8_hasItems_13 rfl rfl ?_
      refine z_ialoadv (pc := 14) dX8_hasItems_14 (by assumption) (by with_reducible rfl) (by omega) (by decide) (by first | assumption | exact v0 _ (by omega) | exact v1 _ (by omega) | rfl) ?_
      first | refine z_icmp_gtN (pc := 15) (tgt := 34) (by with_reducible rfl) (by with_reducible rfl) dX8_hasItems_15 (by decide) (by omega) (by omega) (fun hb15 => ?_) (fun hb15 => ?_) | refine z_icmp_gt (pc := 15) (tgt := 34) dX8_hasItems_15 (by decide) (fun hb15 => ?_) (fun hb15 => ?_)
      · skip
        refine z_iconst (pc := 34) (v := nI 0) dX8_hasItems_34 (by decide) ?_
        refine z_zret (pc := 35) dX8_hasItems_35 rfl (by first | decide | assumption) ?_
        refine ⟨Or.inr ⟨rfl, ?_⟩, rfl, rfl⟩
        rintro ⟨a, b, rfl, rfl, h⟩
        exact absurd ((nI_ltI (by omega) (by omega)).mp hb15) (by omega)
      · obtain ⟨a, rfl, ha⟩ := nI_get2 (by omega) hb1 hb15
        refine z_iload_n (pc := 18) dX8_hasItems_18 rfl rfl ?_
        refine z_aload_n (pc := 19) dX8_hasItems_19 rfl rfl ?_
        refine z_getR (pc := 20) dX8_hasItems_20 f_RX8_18 (by assumption) rfl ?_
        refine z_iload_n (pc := 23) dX8_hasItems_23 rfl rfl ?_
        refine z_ialoadv (pc := 24) dX8_hasItems_24 (by assumption) (by with_reducible rfl) (by omega) (by decide) (by first | assumption | exact v0 _ (by omega) | exact v1 _ (by omega) | rfl) ?_
        refine z_iload_n (pc := 25) dX8_hasItems_25 rfl rfl ?_
        first | refine z_isubN (pc := 26) (by with_reducible rfl) (by with_reducible rfl) dX8_hasItems_26 (by omega) ?_ | refine z_isub (pc := 26) dX8_hasItems_26 ?_
        first | refine z_icmp_gtN (pc := 27) (tgt := 34) (by with_reducible rfl) (by with_reducible rfl) dX8_hasItems_27 (by decide) (by omega) (by omega) (fun hb27 => ?_) (fun hb27 => ?_) | refine z_icmp_gt (pc := 27) (tgt := 34) dX8_hasItems_27 (by decide) (fun hb27 => ?_) (fun hb27 => ?_)
        · skip
          refine z_iconst (pc := 34) (v := nI 0) dX8_hasItems_34 (by decide) ?_
          refine z_zret (pc := 35) dX8_hasItems_35 rfl (by first | decide | assumption) ?_
          refine ⟨Or.inr ⟨rfl, ?_⟩, rfl, rfl⟩
          rintro ⟨a2, b, e2, rfl, h⟩
          obtain rfl := nI_inj (by omega) (by omega) e2
          exact absurd ((nI_ltI (by omega) (by omega)).mp hb27) (by omega)
        · skip
          refine z_iconst (pc := 30) (v := nI 1) dX8_hasItems_30 (by decide) ?_
          refine z_goto (pc := 31) (tgt := 35) dX8_hasItems_31 (by decide) ?_
          refine z_zret (pc := 35) dX8_hasItems_35 rfl (by first | decide | assumption) ?_
          obtain ⟨b, rfl, hb⟩ := nI_get2 (by omega) hb5 hb27
          exact ⟨Or.inl ⟨rfl, a, b, rfl, rfl, by omega⟩, rfl, rfl⟩
set_option maxHeartbeats 2000000 in
set_option maxRecDepth 20000 in
theorem c_X8_itemAt {lay : List zL} {I : zI} {J : zJ} {q : Nat} {so : Nat → Int32} {le : Nat → Nat} {it : Nat → Nat → Int64} (hQ : kQ lay q) (hV : vQ I J q so le it) {t i : Nat} (ht : t < 6) (hi : i < le t) : zMet lay MX8_itemAt 0 [.ref q, .int (nI t), .int (nI i)] I J (fun r I' J' => r = .long (it t i) ∧ I = I' ∧ J = J') := by
  refine zMet_of (t := MX8_itemAt) (ls := [.ref q, .int (nI t), .int (nI i)]) (by decide +kernel) (Nat.le_of_ble_eq_true rfl) rfl ?_
  obtain ⟨k1, k2, k3, k4, k5⟩ := id hQ
  obtain ⟨v0, v1, v2, v3⟩ := id hV
  have hl := (v3 t ht).1
  have kr := k5 t ht
  refine z_aload_n (pc := 0) dX8_itemAt_0 rfl rfl ?_
  refine z_getR (pc := 1) dX8_itemAt_1 f_RX8_11 (by assumption) rfl ?_
  refine z_iload_n (pc := 4) dX8_itemAt_4 rfl rfl ?_
  refine z_aaload (pc := 5) dX8_itemAt_5 (by assumption) (by with_reducible rfl) (zrow6 (by omega)) (show 6 < 2147483648 by decide) ?_
  refine z_iload_n (pc := 6) dX8_itemAt_6 rfl rfl ?_
  refine z_laloadv (pc := 7) dX8_itemAt_7 (by assumption) (by with_reducible rfl) (by omega) (by decide) (by first | assumption | exact v2 _ _ ht hi | rfl) ?_
  refine z_lret (pc := 8) dX8_itemAt_8 rfl ?_
  exact ⟨rfl, rfl, rfl⟩
def zbQ (J0 : zJ) (a k : Nat) (J : zJ) : Prop := (∀ y, y < k → J a y = lN 0) ∧ ∀ x, x ≠ a → J x = J0 x
theorem zbQ_step {J0 J : zJ} {a k : Nat} (h : zbQ J0 a k J) : zbQ J0 a (k + 1) (zup J a k (lN 0)) := by
  refine ⟨fun y hy => ?_, fun x hx => ?_⟩
  · rw [zup_a]
    show (if y = k then _ else J a y) = _
    by_cases q : y = k
    · rw [if_pos q]
    · rw [if_neg q]; exact h.1 y (by omega)
  · rw [zup_o hx]; exact h.2 x hx
set_option maxHeartbeats 2000000 in
set_option maxRecDepth 20000 in
theorem l_X8_become {lay : List zL} {Q : Value → zI → zJ → Prop} {I : zI} {d q t : Nat} {J0 : zJ} {s1 n1 : Int32} (hQ : kQ lay q) (ht : t < 6) : ∀ (m k : Nat) (J : zJ), k + m = 60 → zbQ J0 (q + 4 + t) k J → (∀ J', zbQ J0 (q + 4 + t) 60 J' → Q (.int (nI 1)) I J') → Z lay MX8_become d 17 [.ref q, .int (nI t), .int s1, .int n1, .int (nI k)] [] I J Q := by
  obtain ⟨k1, k2, k3, k4, k5⟩ := id hQ
  have kr := k5 t ht
  intro m
  induction m with
  | zero =>
    intro k J hk h hq
    obtain rfl : k = 60 := (by omega)
    refine z_iload (pc := 17) dX8_become_17 rfl ?_
    refine z_bipush (pc := 19) (v := nI 60) dX8_become_19 (by decide) ?_
    first | refine z_icmp_geN (pc := 21) (tgt := 40) (by with_reducible rfl) (by with_reducible rfl) dX8_become_21 (by decide) (by omega) (by omega) (fun hb21 => ?_) (fun hb21 => absurd hb21 (by omega)) | refine z_icmp_ge (pc := 21) (tgt := 40) dX8_become_21 (by decide) (fun hb21 => ?_) (fun hb21 => absurd hb21 (by omega))
    · skip
      refine z_iconst (pc := 40) (v := nI 1) dX8_become_40 (by decide) ?_
      refine z_iret (pc := 41) dX8_become_41 rfl ?_
      exact hq _ h
  | succ m ih =>
    intro k J hk h hq
    refine z_iload (pc := 17) dX8_become_17 rfl ?_
    refine z_bipush (pc := 19) (v := nI 60) dX8_become_19 (by decide) ?_
    first | refine z_icmp_geN (pc := 21) (tgt := 40) (by with_reducible rfl) (by with_reducible rfl) dX8_become_21 (by decide) (by omega) (by omega) (fun hb21 => absurd hb21 (by omega)) (fun hb21 => ?_) | refine z_icmp_ge (pc := 21) (tgt := 40) dX8_become_21 (by decide) (fun hb21 => absurd hb21 (by omega)) (fun hb21 => ?_)
    · skip
      refine z_aload_n (pc := 24) dX8_become_24 rfl rfl ?_
      refine z_getR (pc := 25) dX8_become_25 f_RX8_11 (by assumption) rfl ?_
      refine z_iload_n (pc := 28) dX8_become_28 rfl rfl ?_
      refine z_aaload (pc := 29) dX8_become_29 (by assumption) (by with_reducible rfl) (zrow6 (by omega)) (show 6 < 2147483648 by decide) ?_
      refine z_iload (pc := 30) dX8_become_30 rfl ?_
      refine z_lconst (pc := 32) (v := lN 0) dX8_become_32 rfl ?_
      refine z_lastore (pc := 33) dX8_become_33 (by assumption) (by with_reducible rfl) (by omega) (by decide) ?_
      first | refine z_iincN (pc := 34) (c := 1) dX8_become_34 rfl (by with_reducible rfl) (by decide) (by decide) rfl ?_ | refine z_iinc (pc := 34) dX8_become_34 rfl rfl (by decide) rfl ?_
      try dsimp only [zst1, zst2, zk]
      refine z_goto (pc := 37) (tgt := 17) dX8_become_37 (by decide) ?_
      exact ih (k + 1) _ (by omega) (zbQ_step h) hq
set_option maxHeartbeats 2000000 in
set_option maxRecDepth 20000 in
theorem c_X8_become {lay : List zL} {I : zI} {J : zJ} {q t n : Nat} {s1 : Int32} (hQ : kQ lay q) (ht : t < 6) : zMet lay MX8_become 0 [.ref q, .int (nI t), .int s1, .int (nI n)] I J (fun r I' J' => r = .int (nI 1) ∧ I' = zup (zup I (q + 2) t s1) (q + 3) t (nI n) ∧ zbQ J (q + 4 + t) 60 J') := by
  refine zMet_of (t := MX8_become) (ls := [.ref q, .int (nI t), .int s1, .int (nI n), .null]) (by decide +kernel) (Nat.le_of_ble_eq_true rfl) rfl ?_
  obtain ⟨k1, k2, k3, k4, k5⟩ := id hQ
  refine z_aload_n (pc := 0) dX8_become_0 rfl rfl ?_
  refine z_getR (pc := 1) dX8_become_1 f_RX8_14 (by assumption) rfl ?_
  refine z_iload_n (pc := 4) dX8_become_4 rfl rfl ?_
  refine z_iload_n (pc := 5) dX8_become_5 rfl rfl ?_
  refine z_iastore (pc := 6) dX8_become_6 (by assumption) (by with_reducible rfl) (by omega) (by decide) ?_
  refine z_aload_n (pc := 7) dX8_become_7 rfl rfl ?_
  refine z_getR (pc := 8) dX8_become_8 f_RX8_18 (by assumption) rfl ?_
  refine z_iload_n (pc := 11) dX8_become_11 rfl rfl ?_
  refine z_iload_n (pc := 12) dX8_become_12 rfl rfl ?_
  refine z_iastore (pc := 13) dX8_become_13 (by assumption) (by with_reducible rfl) (by omega) (by decide) ?_
  refine z_iconst (pc := 14) (v := nI 0) dX8_become_14 (by decide) ?_
  refine z_istore (pc := 15) dX8_become_15 (by decide) rfl ?_
  try dsimp only [zst1, zst2, zk]
  exact l_X8_become (J0 := J) hQ ht 60 0 J rfl ⟨fun y hy => by omega, fun _ _ => rfl⟩ (fun J' h => ⟨rfl, rfl, h⟩)
set_option maxHeartbeats 2000000 in
set_option maxRecDepth 20000 in
theorem c_X8_cut {lay : List zL} {I : zI} {J : zJ} {v : Int64} {so : Int32} : zMet lay MX8_cut 0 [.int so, .long v] I J (fun r I' J' => r = .long (zcut so v) ∧ I = I' ∧ J = J') := by
  refine zMet_of (t := MX8_cut) (ls := [.int so, .long v, .null]) (by decide +kernel) (Nat.le_of_ble_eq_true rfl) rfl ?_
  refine z_iload_n (pc := 0) dX8_cut_0 rfl rfl ?_
  by_cases hsw0 : so = nI 0
  · subst hsw0
    refine z_tableIn (pc := 1) (off := 35) (tgt := 36) dX8_cut_1 (by decide) (by decide) (by decide) (by decide) ?_
    refine z_lload_n (pc := 36) dX8_cut_36 rfl rfl ?_
    first | refine z_l2iN (pc := 37) (by with_reducible rfl) dX8_cut_37 ?_ | refine z_l2i (pc := 37) dX8_cut_37 rfl ?_
    refine z_i2b (pc := 38) dX8_cut_38 rfl ?_
    first | refine z_i2lN (pc := 39) (by with_reducible rfl) dX8_cut_39 (by omega) ?_ | refine z_i2l (pc := 39) dX8_cut_39 rfl ?_
    refine z_lret (pc := 40) dX8_cut_40 rfl ?_
    exact ⟨by unfold zcut; rw [if_pos rfl], rfl, rfl⟩
  by_cases hsw1 : so = nI 1
  · subst hsw1
    refine z_tableIn (pc := 1) (off := 40) (tgt := 41) dX8_cut_1 (by decide) (by decide) (by decide) (by decide) ?_
    refine z_lload_n (pc := 41) dX8_cut_41 rfl rfl ?_
    first | refine z_l2iN (pc := 42) (by with_reducible rfl) dX8_cut_42 ?_ | refine z_l2i (pc := 42) dX8_cut_42 rfl ?_
    refine z_i2s (pc := 43) dX8_cut_43 rfl ?_
    first | refine z_i2lN (pc := 44) (by with_reducible rfl) dX8_cut_44 (by omega) ?_ | refine z_i2l (pc := 44) dX8_cut_44 rfl ?_
    refine z_lret (pc := 45) dX8_cut_45 rfl ?_
    exact ⟨by unfold zcut; rw [if_neg (by decide), if_pos rfl], rfl, rfl⟩
  by_cases hsw2 : so = nI 2
  · subst hsw2
    refine z_tableIn (pc := 1) (off := 45) (tgt := 46) dX8_cut_1 (by decide) (by decide) (by decide) (by decide) ?_
    refine z_lload_n (pc := 46) dX8_cut_46 rfl rfl ?_
    first | refine z_l2iN (pc := 47) (by with_reducible rfl) dX8_cut_47 ?_ | refine z_l2i (pc := 47) dX8_cut_47 rfl ?_
    first | refine z_i2lN (pc := 48) (by with_reducible rfl) dX8_cut_48 (by omega) ?_ | refine z_i2l (pc := 48) dX8_cut_48 rfl ?_
    refine z_lret (pc := 49) dX8_cut_49 rfl ?_
    exact ⟨by unfold zcut; rw [if_neg (by decide), if_neg (by decide), if_pos rfl], rfl, rfl⟩
  by_cases hsw3 : so = nI 3
  · subst hsw3
    refine z_tableIn (pc := 1) (off := 61) (tgt := 62) dX8_cut_1 (by decide) (by decide) (by decide) (by decide) ?_
    refine z_lload_n (pc := 62) dX8_cut_62 rfl rfl ?_
    refine z_lret (pc := 63) dX8_cut_63 rfl ?_
    exact ⟨by unfold zcut; rw [if_neg (by decide), if_neg (by decide), if_neg (by decide), if_neg (by decide)], rfl, rfl⟩
  by_cases hsw4 : so = nI 4
  · subst hsw4
    refine z_tableIn (pc := 1) (off := 49) (tgt := 50) dX8_cut_1 (by decide) (by decide) (by decide) (by decide) ?_
    refine z_lload_n (pc := 50) dX8_cut_50 rfl rfl ?_
    refine z_lconst (pc := 51) (v := lN 0) dX8_cut_51 rfl ?_
    first | refine z_lc_eqN (pc := 52) (tgt := 60) (by with_reducible rfl) (by with_reducible rfl) dX8_cut_52 rfl dX8_cut_53 (by decide) (by omega) (by omega) (fun hb52 => ?_) (fun hb52 => ?_) | refine z_lc_eq (pc := 52) (tgt := 60) dX8_cut_52 rfl dX8_cut_53 (by decide) (fun hb52 => ?_) (fun hb52 => ?_)
    · skip
      refine z_lconst (pc := 60) (v := lN 0) dX8_cut_60 rfl ?_
      refine z_lret (pc := 61) dX8_cut_61 rfl ?_
      exact ⟨by unfold zcut; rw [if_neg (by decide), if_neg (by decide), if_neg (by decide), if_pos rfl, if_pos hb52], rfl, rfl⟩
    · skip
      refine z_lconst (pc := 56) (v := lN 1) dX8_cut_56 rfl ?_
      refine z_goto (pc := 57) (tgt := 61) dX8_cut_57 (by decide) ?_
      refine z_lret (pc := 61) dX8_cut_61 rfl ?_
      exact ⟨by unfold zcut; rw [if_neg (by decide), if_neg (by decide), if_neg (by decide), if_pos rfl, if_neg hb52], rfl, rfl⟩
  · skip
    refine z_tableOut (pc := 1) (tgt := 62) dX8_cut_1 (by have e0 : so.toInt ≠ 0 := fun h => hsw0 (Int32.toInt_inj.mp (h.trans (by decide))); have e1 : so.toInt ≠ 1 := fun h => hsw1 (Int32.toInt_inj.mp (h.trans (by decide))); have e2 : so.toInt ≠ 2 := fun h => hsw2 (Int32.toInt_inj.mp (h.trans (by decide))); have e3 : so.toInt ≠ 3 := fun h => hsw3 (Int32.toInt_inj.mp (h.trans (by decide))); have e4 : so.toInt ≠ 4 := fun h => hsw4 (Int32.toInt_inj.mp (h.trans (by decide))); omega) (by decide) ?_
    refine z_lload_n (pc := 62) dX8_cut_62 rfl rfl ?_
    refine z_lret (pc := 63) dX8_cut_63 rfl ?_
    exact ⟨by unfold zcut; rw [if_neg hsw0, if_neg hsw1, if_neg hsw2, if_neg hsw4], rfl, rfl⟩
set_option maxHeartbeats 2000000 in
set_option maxRecDepth 20000 in
theorem c_X8_put {lay : List zL} {I : zI} {J : zJ} {q : Nat} {so : Nat → Int32} {le : Nat → Nat} {it : Nat → Nat → Int64} (hQ : kQ lay q) (hV : vQ I J q so le it) {t i : Nat} {v : Int64} (ht : t < 6) (hi : i < le t) : zMet lay MX8_put 1 [.ref q, .int (nI t), .int (nI i), .long v] I J (fun r I' J' => r = .int (nI 1) ∧ I = I' ∧ J' = zup J (q + 4 + t) i (zcut (so t) v)) := by
  refine zMet_of (t := MX8_put) (ls := [.ref q, .int (nI t), .int (nI i), .long v, .null]) (by decide +kernel) (Nat.le_of_ble_eq_true rfl) rfl ?_
  obtain ⟨k1, k2, k3, k4, k5⟩ := id hQ
  obtain ⟨v0, v1, v2, v3⟩ := id hV
  have hl := (v3 t ht).1
  have kr := k5 t ht
  refine z_aload_n (pc := 0) dX8_put_0 rfl rfl ?_
  refine z_getR (pc := 1) dX8_put_1 f_RX8_11 (by assumption) rfl ?_
  refine z_iload_n (pc := 4) dX8_put_4 rfl rfl ?_
  refine z_aaload (pc := 5) dX8_put_5 (by assumption) (by with_reducible rfl) (zrow6 (by omega)) (show 6 < 2147483648 by decide) ?_
  refine z_iload_n (pc := 6) dX8_put_6 rfl rfl ?_
  refine z_aload_n (pc := 7) dX8_put_7 rfl rfl ?_
  refine z_getR (pc := 8) dX8_put_8 f_RX8_14 (by assumption) rfl ?_
  refine z_iload_n (pc := 11) dX8_put_11 rfl rfl ?_
  refine z_ialoadv (pc := 12) dX8_put_12 (by assumption) (by with_reducible rfl) (by omega) (by decide) (by first | assumption | exact v0 _ (by omega) | exact v1 _ (by omega) | rfl) ?_
  refine z_lload_n (pc := 13) dX8_put_13 rfl rfl ?_
  refine z_callS (pc := 14) c_X8_cut dX8_put_14 l_RX8_21 m_MX8_cut s_MX8_cut rfl (by omega) rfl (Nat.le_of_ble_eq_true rfl) ?_
  rintro _ _ _ (⟨rfl, rfl, rfl⟩)
  try dsimp only [zov, Option.toList, List.cons_append, List.nil_append]
  refine z_lastore (pc := 17) dX8_put_17 (by assumption) (by with_reducible rfl) (by omega) (by decide) ?_
  refine z_iconst (pc := 18) (v := nI 1) dX8_put_18 (by decide) ?_
  refine z_iret (pc := 19) dX8_put_19 rfl ?_
  exact ⟨rfl, rfl, rfl⟩
set_option maxHeartbeats 2000000 in
set_option maxRecDepth 20000 in
theorem c_X8_move {lay : List zL} {I : zI} {J : zJ} {q : Nat} {so : Nat → Int32} {le : Nat → Nat} {it : Nat → Nat → Int64} (hQ : kQ lay q) (hV : vQ I J q so le it) {t u a b n : Nat} (ht : t < 6) (hu : u < 6) (h1 : a + n ≤ le t) (h2 : b + n ≤ le u) : zMet lay MX8_move 1 [.ref q, .int (nI t), .int (nI a), .int (nI u), .int (nI b), .int (nI n)] I J (fun r I' J' => r = .int (nI n) ∧ I = I' ∧ J' = zcp J (q + 4 + t) a (q + 4 + u) b n) := by
  refine zMet_of (t := MX8_move) (ls := [.ref q, .int (nI t), .int (nI a), .int (nI u), .int (nI b), .int (nI n)]) (by decide +kernel) (Nat.le_of_ble_eq_true rfl) rfl ?_
  obtain ⟨k1, k2, k3, k4, k5⟩ := id hQ
  obtain ⟨v0, v1, v2, v3⟩ := id hV
  have hl := (v3 t ht).1
  have hl2 := (v3 u hu).1
  have kr := k5 t ht
  have kr2 := k5 u hu
  refine z_aload_n (pc := 0) dX8_move_0 rfl rfl ?_
  refine z_getR (pc := 1) dX8_move_1 f_RX8_11 (by assumption) rfl ?_
  refine z_iload_n (pc := 4) dX8_move_4 rfl rfl ?_
  refine z_aaload (pc := 5) dX8_move_5 (by assumption) (by with_reducible rfl) (zrow6 (by omega)) (show 6 < 2147483648 by decide) ?_
  refine z_iload_n (pc := 6) dX8_move_6 rfl rfl ?_
  refine z_aload_n (pc := 7) dX8_move_7 rfl rfl ?_
  refine z_getR (pc := 8) dX8_move_8 f_RX8_11 (by assumption) rfl ?_
  refine z_iload_n (pc := 11) dX8_move_11 rfl rfl ?_
  refine z_aaload (pc := 12) dX8_move_12 (by assumption) (by with_reducible rfl) (zrow6 (by omega)) (show 6 < 2147483648 by decide) ?_
  refine z_iload (pc := 13) dX8_move_13 rfl ?_
  refine z_iload (pc := 15) dX8_move_15 rfl ?_
  first | refine z_copyI (pc := 17) dX8_move_17 lc_RX8_25 (by assumption) (by assumption) rfl rfl rfl (by omega) (by omega) (by decide) (by decide) (by omega) (Nat.le_of_ble_eq_true rfl) ?_ | refine z_copyJ (pc := 17) dX8_move_17 lc_RX8_25 (by assumption) (by assumption) rfl rfl rfl (by omega) (by omega) (by decide) (by decide) (by omega) (Nat.le_of_ble_eq_true rfl) ?_
  refine z_iload (pc := 20) dX8_move_20 rfl ?_
  refine z_iret (pc := 22) dX8_move_22 rfl ?_
  exact ⟨rfl, rfl, rfl⟩
