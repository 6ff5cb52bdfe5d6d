set_option maxHeartbeats 2000000 in
set_option maxRecDepth 20000 in
theorem c_X9_place {lay : List zL} {I : zI} {J : zJ} {a b : Nat} : zMet lay MX9_place 0 [.int (nI a), .int (nI b)] I J (fun r I' J' => r = .int (nI (3 * a + b)) ∧ I = I' ∧ J = J') := by
  refine zMet_of (t := MX9_place) (ls := [.int (nI a), .int (nI b)]) (by decide +kernel) (Nat.le_of_ble_eq_true rfl) rfl ?_
  refine z_iconst (pc := 0) (v := nI 3) dX9_place_0 (by decide) ?_
  refine z_iload_n (pc := 1) dX9_place_1 rfl rfl ?_
  first | refine z_imulN (pc := 2) (by with_reducible rfl) (by with_reducible rfl) dX9_place_2 ?_ | refine z_imul (pc := 2) dX9_place_2 ?_
  refine z_iload_n (pc := 3) dX9_place_3 rfl rfl ?_
  first | refine z_iaddN (pc := 4) (by with_reducible rfl) (by with_reducible rfl) dX9_place_4 ?_ | refine z_iadd (pc := 4) dX9_place_4 ?_
  refine z_iret (pc := 5) dX9_place_5 rfl ?_
  exact ⟨rfl, rfl, rfl⟩
set_option maxHeartbeats 2000000 in
set_option maxRecDepth 20000 in
theorem c_X9_oneIf {lay : List zL} {I : zI} {J : zJ} {v : Nat} (hv : v ≤ 1) : zMet lay MX9_oneIf 0 [.int (nI v)] I J (fun r I' J' => r = .int (nI v) ∧ I = I' ∧ J = J') := by
  refine zMet_of (t := MX9_oneIf) (ls := [.int (nI v)]) (by decide +kernel) (Nat.le_of_ble_eq_true rfl) rfl ?_
  refine z_iload_n (pc := 0) dX9_oneIf_0 rfl rfl ?_
  first | refine z_if_eqN (pc := 1) (tgt := 8) (by with_reducible rfl) dX9_oneIf_1 (by decide) (by omega) (fun hb1 => ?_) (fun hb1 => ?_) | refine z_if_eq (pc := 1) (tgt := 8) dX9_oneIf_1 (by decide) (fun hb1 => ?_) (fun hb1 => ?_)
  · skip
    refine z_iconst (pc := 8) (v := nI 0) dX9_oneIf_8 (by decide) ?_
    refine z_iret (pc := 9) dX9_oneIf_9 rfl ?_
    exact ⟨by rw [show v = 0 by omega], rfl, rfl⟩
  · skip
    refine z_iconst (pc := 4) (v := nI 1) dX9_oneIf_4 (by decide) ?_
    refine z_goto (pc := 5) (tgt := 9) dX9_oneIf_5 (by decide) ?_
    refine z_iret (pc := 9) dX9_oneIf_9 rfl ?_
    exact ⟨by rw [show v = 1 by omega], rfl, rfl⟩
set_option maxHeartbeats 2000000 in
set_option maxRecDepth 20000 in
theorem c_X6_cells {lay : List zL} {I : zI} {J : zJ} {s : Nat} {n : Nat → Nat} (hS : kS lay s) (hV : vS I s n) (hB : bS n) : zMet lay MX6_cells 0 [.ref s] I J (fun r I' J' => r = .int (nI (n 0 * n 1)) ∧ I = I' ∧ J = J') := by
  refine zMet_of (t := MX6_cells) (ls := [.ref s]) (by decide +kernel) (Nat.le_of_ble_eq_true rfl) rfl ?_
  have hS' := hS
  have hV' := hV
  have hB' := hB
  obtain ⟨h1, h2, h3, h4⟩ := hS
  obtain ⟨v0, v1, v2, v3, v4, v5⟩ := hV
  obtain ⟨b1, b2, b3, b4, b5, b6, b7, b8⟩ := hB
  refine z_aload_n (pc := 0) dX6_cells_0 rfl rfl ?_
  refine z_getIv (pc := 1) dX6_cells_1 f_RX6_25 (by assumption) rfl (by first | assumption | rfl) ?_
  refine z_aload_n (pc := 4) dX6_cells_4 rfl rfl ?_
  refine z_getIv (pc := 5) dX6_cells_5 f_RX6_29 (by assumption) rfl (by first | assumption | rfl) ?_
  first | refine z_imulN (pc := 8) (by with_reducible rfl) (by with_reducible rfl) dX6_cells_8 ?_ | refine z_imul (pc := 8) dX6_cells_8 ?_
  refine z_iret (pc := 9) dX6_cells_9 rfl ?_
  exact ⟨rfl, rfl, rfl⟩
theorem isC_1 {r c : Nat} {i j : Int32} (hr : r ≤ 3) (h : i < 0) : ¬ isC r c i j := by
  rintro ⟨a, b, rfl, rfl, h1, h2⟩
  exact nI_pos (by omega) h
theorem isC_2 {r c : Nat} {i j : Int32} (hr : r ≤ 3) (h : nI r ≤ i) : ¬ isC r c i j := by
  rintro ⟨a, b, rfl, rfl, h1, h2⟩
  exact absurd ((nI_leI (by omega) (by omega)).mp h) (by omega)
theorem isC_3 {r c : Nat} {i j : Int32} (hc : c ≤ 3) (h : j < 0) : ¬ isC r c i j := by
  rintro ⟨a, b, rfl, rfl, h1, h2⟩
  exact nI_pos (by omega) h
theorem isC_4 {r c : Nat} {i j : Int32} (hc : c ≤ 3) (h : nI c ≤ j) : ¬ isC r c i j := by
  rintro ⟨a, b, rfl, rfl, h1, h2⟩
  exact absurd ((nI_leI (by omega) (by omega)).mp h) (by omega)
theorem nI_get {x : Int32} {m : Nat} (hm : m < 2147483648) (h0 : ¬ x < 0) (h1 : ¬ nI m ≤ x) : ∃ a, x = nI a ∧ a < m := by
  rcases pk_ix x hm with h | h | ⟨j, h2, h3⟩
  · exact absurd h h0
  · exact absurd h h1
  · exact ⟨j, h3, h2⟩
theorem isC_5 {r c : Nat} {i j : Int32} (hr : r ≤ 3) (hc : c ≤ 3) (h1 : ¬ i < 0) (h2 : ¬ nI r ≤ i) (h3 : ¬ j < 0) (h4 : ¬ nI c ≤ j) : isC r c i j := by
  obtain ⟨a, e1, h5⟩ := nI_get (by omega) h1 h2
  obtain ⟨b, e2, h6⟩ := nI_get (by omega) h3 h4
  exact ⟨a, b, e1, e2, h5, h6⟩
set_option maxHeartbeats 2000000 in
set_option maxRecDepth 20000 in
theorem c_X6_hasCell {lay : List zL} {I : zI} {J : zJ} {s : Nat} {n : Nat → Nat} (hS : kS lay s) (hV : vS I s n) (hB : bS n) {i j : Int32} : zMet lay MX6_hasCell 0 [.ref s, .int i, .int j] I J (fun r I' J' => ((r = .int (nI 1) ∧ isC (n 0) (n 1) i j) ∨ (r = .int (nI 0) ∧ ¬ isC (n 0) (n 1) i j)) ∧ I = I' ∧ J = J') := by
  refine zMet_of (t := MX6_hasCell) (ls := [.ref s, .int i, .int j]) (by decide +kernel) (Nat.le_of_ble_eq_true rfl) rfl ?_
  have hS' := hS
  have hV' := hV
  have hB' := hB
  obtain ⟨h1, h2, h3, h4⟩ := hS
  obtain ⟨v0, v1, v2, v3, v4, v5⟩ := hV
  obtain ⟨b1, b2, b3, b4, b5, b6, b7, b8⟩ := hB
  refine z_iload_n (pc := 0) dX6_hasCell_0 rfl rfl ?_
  first | refine z_if_ltN (pc := 1) (tgt := 28) (by with_reducible rfl) dX6_hasCell_1 (by decide) (by omega) (fun hb1 => ?_) (fun hb1 => ?_) | refine z_if_lt (pc := 1) (tgt := 28) dX6_hasCell_1 (by decide) (fun hb1 => ?_) (fun hb1 => ?_)
  · skip
    refine z_iconst (pc := 28) (v := nI 0) dX6_hasCell_28 (by decide) ?_
    refine z_zret (pc := 29) dX6_hasCell_29 rfl (by first | decide | assumption) ?_
    exact ⟨Or.inr ⟨rfl, isC_1 (by omega) hb1⟩, rfl, rfl⟩
  · skip
    refine z_iload_n (pc := 4) dX6_hasCell_4 rfl rfl ?_
    refine z_aload_n (pc := 5) dX6_hasCell_5 rfl rfl ?_
    refine z_getIv (pc := 6) dX6_hasCell_6 f_RX6_25 (by assumption) rfl (by first | assumption | rfl) ?_
    first | refine z_icmp_geN (pc := 9) (tgt := 28) (by with_reducible rfl) (by with_reducible rfl) dX6_hasCell_9 (by decide) (by omega) (by omega) (fun hb9 => ?_) (fun hb9 => ?_) | refine z_icmp_ge (pc := 9) (tgt := 28) dX6_hasCell_9 (by decide) (fun hb9 => ?_) (fun hb9 => ?_)
    · skip
      refine z_iconst (pc := 28) (v := nI 0) dX6_hasCell_28 (by decide) ?_
      refine z_zret (pc := 29) dX6_hasCell_29 rfl (by first | decide | assumption) ?_
      exact ⟨Or.inr ⟨rfl, isC_2 (by omega) hb9⟩, rfl, rfl⟩
    · skip
      refine z_iload_n (pc := 12) dX6_hasCell_12 rfl rfl ?_
      first | refine z_if_ltN (pc := 13) (tgt := 28) (by with_reducible rfl) dX6_hasCell_13 (by decide) (by omega) (fun hb13 => ?_) (fun hb13 => ?_) | refine z_if_lt (pc := 13) (tgt := 28) dX6_hasCell_13 (by decide) (fun hb13 => ?_) (fun hb13 => ?_)
      · skip
        refine z_iconst (pc := 28) (v := nI 0) dX6_hasCell_28 (by decide) ?_
        refine z_zret (pc := 29) dX6_hasCell_29 rfl (by first | decide | assumption) ?_
        exact ⟨Or.inr ⟨rfl, isC_3 (by omega) hb13⟩, rfl, rfl⟩
      · skip
        refine z_iload_n (pc := 16) dX6_hasCell_16 rfl rfl ?_
        refine z_aload_n (pc := 17) dX6_hasCell_17 rfl rfl ?_
        refine z_getIv (pc := 18) dX6_hasCell_18 f_RX6_29 (by assumption) rfl (by first | assumption | rfl) ?_
        first | refine z_icmp_geN (pc := 21) (tgt := 28) (by with_reducible rfl) (by with_reducible rfl) dX6_hasCell_21 (by decide) (by omega) (by omega) (fun hb21 => ?_) (fun hb21 => ?_) | refine z_icmp_ge (pc := 21) (tgt := 28) dX6_hasCell_21 (by decide) (fun hb21 => ?_) (fun hb21 => ?_)
        · skip
          refine z_iconst (pc := 28) (v := nI 0) dX6_hasCell_28 (by decide) ?_
          refine z_zret (pc := 29) dX6_hasCell_29 rfl (by first | decide | assumption) ?_
          exact ⟨Or.inr ⟨rfl, isC_4 (by omega) hb21⟩, rfl, rfl⟩
        · skip
          refine z_iconst (pc := 24) (v := nI 1) dX6_hasCell_24 (by decide) ?_
          refine z_goto (pc := 25) (tgt := 29) dX6_hasCell_25 (by decide) ?_
          refine z_zret (pc := 29) dX6_hasCell_29 rfl (by first | decide | assumption) ?_
          exact ⟨Or.inl ⟨rfl, isC_5 (by omega) (by omega) hb1 hb9 hb13 hb21⟩, rfl, rfl⟩
set_option maxHeartbeats 2000000 in
set_option maxRecDepth 20000 in
theorem c_X6_lines {lay : List zL} {I : zI} {J : zJ} {s : Nat} {n : Nat → Nat} (hS : kS lay s) (hV : vS I s n) (hB : bS n) {w : Nat} (hw : w ≤ 2) : zMet lay MX6_lines 0 [.ref s, .int (nI w)] I J (fun r I' J' => r = .int (nI (zlines (n 0) (n 1) w)) ∧ I = I' ∧ J = J') := by
  refine zMet_of (t := MX6_lines) (ls := [.ref s, .int (nI w)]) (by decide +kernel) (Nat.le_of_ble_eq_true rfl) rfl ?_
  have hS' := hS
  have hV' := hV
  have hB' := hB
  obtain ⟨h1, h2, h3, h4⟩ := hS
  obtain ⟨v0, v1, v2, v3, v4, v5⟩ := hV
  obtain ⟨b1, b2, b3, b4, b5, b6, b7, b8⟩ := hB
  refine z_iload_n (pc := 0) dX6_lines_0 rfl rfl ?_
  by_cases hsw0 : w = 0
  · subst hsw0
    refine z_tableIn (pc := 1) (off := 27) (tgt := 28) dX6_lines_1 (by decide) (by decide) (by decide) (by decide) ?_
    refine z_aload_n (pc := 28) dX6_lines_28 rfl rfl ?_
    refine z_getIv (pc := 29) dX6_lines_29 f_RX6_25 (by assumption) rfl (by first | assumption | rfl) ?_
    refine z_iret (pc := 32) dX6_lines_32 rfl ?_
    exact ⟨rfl, rfl, rfl⟩
  by_cases hsw1 : w = 1
  · subst hsw1
    refine z_tableIn (pc := 1) (off := 32) (tgt := 33) dX6_lines_1 (by decide) (by decide) (by decide) (by decide) ?_
    refine z_aload_n (pc := 33) dX6_lines_33 rfl rfl ?_
    refine z_getIv (pc := 34) dX6_lines_34 f_RX6_29 (by assumption) rfl (by first | assumption | rfl) ?_
    refine z_iret (pc := 37) dX6_lines_37 rfl ?_
    exact ⟨rfl, rfl, rfl⟩
  by_cases hsw2 : w = 2
  · subst hsw2
    refine z_tableIn (pc := 1) (off := 37) (tgt := 38) dX6_lines_1 (by decide) (by decide) (by decide) (by decide) ?_
    refine z_iconst (pc := 38) (v := nI 3) dX6_lines_38 (by decide) ?_
    refine z_iret (pc := 39) dX6_lines_39 rfl ?_
    exact ⟨rfl, rfl, rfl⟩
  · skip
    exact absurd hw (by omega)
set_option maxHeartbeats 2000000 in
set_option maxRecDepth 20000 in
theorem c_X6_linesI {lay : List zL} {I : zI} {J : zJ} {s : Nat} {n : Nat → Nat} (hS : kS lay s) (hV : vS I s n) (hB : bS n) {w : Int32} : zMet lay MX6_lines 0 [.ref s, .int w] I J (fun r I' J' => ((∃ a, a ≤ 2 ∧ w = nI a ∧ r = .int (nI (zlines (n 0) (n 1) a))) ∨ ((¬ ∃ a, a ≤ 2 ∧ w = nI a) ∧ r = .int (nI 0))) ∧ I = I' ∧ J = J') := by
  refine zMet_of (t := MX6_lines) (ls := [.ref s, .int w]) (by decide +kernel) (Nat.le_of_ble_eq_true rfl) rfl ?_
  have hS' := hS
  have hV' := hV
  have hB' := hB
  obtain ⟨h1, h2, h3, h4⟩ := hS
  obtain ⟨v0, v1, v2, v3, v4, v5⟩ := hV
  obtain ⟨b1, b2, b3, b4, b5, b6, b7, b8⟩ := hB
  refine z_iload_n (pc := 0) dX6_lines_0 rfl rfl ?_
  by_cases hsw0 : w = nI 0
  · subst hsw0
    refine z_tableIn (pc := 1) (off := 27) (tgt := 28) dX6_lines_1 (by decide) (by decide) (by decide) (by decide) ?_
    refine z_aload_n (pc := 28) dX6_lines_28 rfl rfl ?_
    refine z_getIv (pc := 29) dX6_lines_29 f_RX6_25 (by assumption) rfl (by first | assumption | rfl) ?_
    refine z_iret (pc := 32) dX6_lines_32 rfl ?_
    exact ⟨Or.inl ⟨0, by omega, rfl, rfl⟩, rfl, rfl⟩
  by_cases hsw1 : w = nI 1
  · subst hsw1
    refine z_tableIn (pc := 1) (off := 32) (tgt := 33) dX6_lines_1 (by decide) (by decide) (by decide) (by decide) ?_
    refine z_aload_n (pc := 33) dX6_lines_33 rfl rfl ?_
    refine z_getIv (pc := 34) dX6_lines_34 f_RX6_29 (by assumption) rfl (by first | assumption | rfl) ?_
    refine z_iret (pc := 37) dX6_lines_37 rfl ?_
    exact ⟨Or.inl ⟨1, by omega, rfl, rfl⟩, rfl, rfl⟩
  by_cases hsw2 : w = nI 2
  · subst hsw2
    refine z_tableIn (pc := 1) (off := 37) (tgt := 38) dX6_lines_1 (by decide) (by decide) (by decide) (by decide) ?_
    refine z_iconst (pc := 38) (v := nI 3) dX6_lines_38 (by decide) ?_
    refine z_iret (pc := 39) dX6_lines_39 rfl ?_
    exact ⟨Or.inl ⟨2, by omega, rfl, rfl⟩, rfl, rfl⟩
  · skip
    refine z_tableOut (pc := 1) (tgt := 40) dX6_lines_1 (by have e0 : w.toInt ≠ 0 := fun h => hsw0 (Int32.toInt_inj.mp (h.trans (by decide))); have e1 : w.toInt ≠ 1 := fun h => hsw1 (Int32.toInt_inj.mp (h.trans (by decide))); have e2 : w.toInt ≠ 2 := fun h => hsw2 (Int32.toInt_inj.mp (h.trans (by decide))); omega) (by decide) ?_
    refine z_iconst (pc := 40) (v := nI 0) dX6_lines_40 (by decide) ?_
    refine z_iret (pc := 41) dX6_lines_41 rfl ?_
    refine ⟨Or.inr ⟨?_, rfl⟩, rfl, rfl⟩
    rintro ⟨a, ha, rfl⟩
    rcases (show a = 0 ∨ a = 1 ∨ a = 2 by omega) with rfl | rfl | rfl
    · exact hsw0 rfl
    · exact hsw1 rfl
    · exact hsw2 rfl
set_option maxHeartbeats 2000000 in
set_option maxRecDepth 20000 in
theorem c_X6_hasLine {lay : List zL} {I : zI} {J : zJ} {s : Nat} {n : Nat → Nat} (hS : kS lay s) (hV : vS I s n) (hB : bS n) {w l : Int32} : zMet lay MX6_hasLine 1 [.ref s, .int w, .int l] I J (fun r I' J' => ((r = .int (nI 1) ∧ isLn (n 0) (n 1) w l) ∨ (r = .int (nI 0) ∧ ¬ isLn (n 0) (n 1) w l)) ∧ I = I' ∧ J = J') := by
  refine zMet_of (t := MX6_hasLine) (ls := [.ref s, .int w, .int l]) (by decide +kernel) (Nat.le_of_ble_eq_true rfl) rfl ?_
  have hS' := hS
  have hV' := hV
  have hB' := hB
  obtain ⟨h1, h2, h3, h4⟩ := hS
  obtain ⟨v0, v1, v2, v3, v4, v5⟩ := hV
  obtain ⟨b1, b2, b3, b4, b5, b6, b7, b8⟩ := hB
  refine z_iload_n (pc := 0) dX6_hasLine_0 rfl rfl ?_
  first | refine z_if_ltN (pc := 1) (tgt := 17) (by with_reducible rfl) dX6_hasLine_1 (by decide) (by omega) (fun hb1 => ?_) (fun hb1 => ?_) | refine z_if_lt (pc := 1) (tgt := 17) dX6_hasLine_1 (by decide) (fun hb1 => ?_) (fun hb1 => ?_)
  · skip
    refine z_iconst (pc := 17) (v := nI 0) dX6_hasLine_17 (by decide) ?_
    refine z_zret (pc := 18) dX6_hasLine_18 rfl (by first | decide | assumption) ?_
    refine ⟨Or.inr ⟨rfl, ?_⟩, rfl, rfl⟩
    rintro ⟨a, b, rfl, rfl, h5, h6⟩
    have hz : zlines (n 0) (n 1) a ≤ 3 := (by unfold zlines; split; omega; split <;> omega)
    exact nI_pos (by omega) hb1
  · skip
    refine z_iload_n (pc := 4) dX6_hasLine_4 rfl rfl ?_
    refine z_aload_n (pc := 5) dX6_hasLine_5 rfl rfl ?_
    refine z_iload_n (pc := 6) dX6_hasLine_6 rfl rfl ?_
    refine z_callV (pc := 7) (c_X6_linesI (by assumption) (by assumption) (by assumption)) dX6_hasLine_7 l_RX6_42 m_MX6_lines n_MX6_lines e_MX6_lines rfl (by omega) (by assumption) rfl rfl (Nat.le_of_ble_eq_true rfl) ?_
    rintro _ _ _ ⟨⟨a, ha, hwa, rfl⟩ | ⟨ha, rfl⟩, rfl, rfl⟩
    · have hz : zlines (n 0) (n 1) a ≤ 3 := (by unfold zlines; split; omega; split <;> omega)
      try dsimp only [zov, Option.toList, List.cons_append, List.nil_append]
      first | refine z_icmp_geN (pc := 10) (tgt := 17) (by with_reducible rfl) (by with_reducible rfl) dX6_hasLine_10 (by decide) (by omega) (by omega) (fun hb10 => ?_) (fun hb10 => ?_) | refine z_icmp_ge (pc := 10) (tgt := 17) dX6_hasLine_10 (by decide) (fun hb10 => ?_) (fun hb10 => ?_)
      · skip
        refine z_iconst (pc := 17) (v := nI 0) dX6_hasLine_17 (by decide) ?_
        refine z_zret (pc := 18) dX6_hasLine_18 rfl (by first | decide | assumption) ?_
        refine ⟨Or.inr ⟨rfl, ?_⟩, rfl, rfl⟩
        rintro ⟨a2, b, e2, rfl, h5, h6⟩
        obtain rfl := nI_inj (by omega) (by omega) (hwa.symm.trans e2)
        exact absurd ((nI_leI (by omega) (by omega)).mp hb10) (by omega)
      · skip
        refine z_iconst (pc := 13) (v := nI 1) dX6_hasLine_13 (by decide) ?_
        refine z_goto (pc := 14) (tgt := 18) dX6_hasLine_14 (by decide) ?_
        refine z_zret (pc := 18) dX6_hasLine_18 rfl (by first | decide | assumption) ?_
        obtain ⟨b, rfl, h6⟩ := nI_get (by omega) hb1 hb10
        exact ⟨Or.inl ⟨rfl, a, b, hwa, rfl, ha, h6⟩, rfl, rfl⟩
    · skip
      try dsimp only [zov, Option.toList, List.cons_append, List.nil_append]
      first | refine z_icmp_geN (pc := 10) (tgt := 17) (by with_reducible rfl) (by with_reducible rfl) dX6_hasLine_10 (by decide) (by omega) (by omega) (fun hb10 => ?_) (fun hb10 => ?_) | refine z_icmp_ge (pc := 10) (tgt := 17) dX6_hasLine_10 (by decide) (fun hb10 => ?_) (fun hb10 => ?_)
      · skip
        refine z_iconst (pc := 17) (v := nI 0) dX6_hasLine_17 (by decide) ?_
        refine z_zret (pc := 18) dX6_hasLine_18 rfl (by first | decide | assumption) ?_
        refine ⟨Or.inr ⟨rfl, ?_⟩, rfl, rfl⟩
        rintro ⟨a2, b, rfl, rfl, h5, h6⟩
        exact ha ⟨a2, h5, rfl⟩
      · skip
        refine z_iconst (pc := 13) (v := nI 1) dX6_hasLine_13 (by decide) ?_
        refine z_goto (pc := 14) (tgt := 18) dX6_hasLine_14 (by decide) ?_
        refine z_zret (pc := 18) dX6_hasLine_18 rfl (by first | decide | assumption) ?_
        exact absurd (nI_get (m := 0) (by omega) hb1 hb10) (by rintro ⟨a, -, h⟩; omega)
set_option maxHeartbeats 2000000 in
set_option maxRecDepth 20000 in
theorem c_X6_lineOf {lay : List zL} {I : zI} {J : zJ} {s : Nat} {n : Nat → Nat} (hS : kS lay s) (hV : vS I s n) (hB : bS n) {w i j : Nat} (hw : w ≤ 2) (hi : i < 3) (hj : j < 3) : zMet lay MX6_lineOf 1 [.ref s, .int (nI w), .int (nI i), .int (nI j)] I J (fun r I' J' => r = .int (nI (zline (fun k => n (16 + k)) w (3 * i + j))) ∧ I = I' ∧ J = J') := by
  refine zMet_of (t := MX6_lineOf) (ls := [.ref s, .int (nI w), .int (nI i), .int (nI j)]) (by decide +kernel) (Nat.le_of_ble_eq_true rfl) rfl ?_
  have hS' := hS
  have hV' := hV
  have hB' := hB
  obtain ⟨h1, h2, h3, h4⟩ := hS
  obtain ⟨v0, v1, v2, v3, v4, v5⟩ := hV
  obtain ⟨b1, b2, b3, b4, b5, b6, b7, b8⟩ := hB
  refine z_iload_n (pc := 0) dX6_lineOf_0 rfl rfl ?_
  by_cases hsw0 : w = 0
  · subst hsw0
    refine z_lookup (pc := 1) (off := 27) (tgt := 28) dX6_lineOf_1 (by decide) (by decide) (by decide) ?_
    refine z_iload_n (pc := 28) dX6_lineOf_28 rfl rfl ?_
    refine z_iret (pc := 29) dX6_lineOf_29 rfl ?_
    exact ⟨by rw [show zline (fun k => n (16 + k)) 0 (3 * i + j) = (3 * i + j) / 3 from rfl, show (3 * i + j) / 3 = i by omega], rfl, rfl⟩
  by_cases hsw1 : w = 1
  · subst hsw1
    refine z_lookup (pc := 1) (off := 29) (tgt := 30) dX6_lineOf_1 (by decide) (by decide) (by decide) ?_
    refine z_iload_n (pc := 30) dX6_lineOf_30 rfl rfl ?_
    refine z_iret (pc := 31) dX6_lineOf_31 rfl ?_
    exact ⟨by rw [show zline (fun k => n (16 + k)) 1 (3 * i + j) = (3 * i + j) % 3 from rfl, show (3 * i + j) % 3 = j by omega], rfl, rfl⟩
  · skip
    have e9 := nI_toInt (n := w) (by omega)
    have e0 : (nI w).toInt ≠ 0 := by omega
    have e1 : (nI w).toInt ≠ 1 := by omega
    refine z_lookup (pc := 1) (off := 31) (tgt := 32) dX6_lineOf_1 (by decide) (by simp [Op.lookupswitch.offset, Ne.symm e0, Ne.symm e1, e0, e1]) (by decide) ?_
    refine z_aload_n (pc := 32) dX6_lineOf_32 rfl rfl ?_
    refine z_getR (pc := 33) dX6_lineOf_33 f_RX6_15 (by assumption) rfl ?_
    refine z_iload_n (pc := 36) dX6_lineOf_36 rfl rfl ?_
    refine z_iload_n (pc := 37) dX6_lineOf_37 rfl rfl ?_
    refine z_callN (pc := 38) c_X9_place dX6_lineOf_38 zN_46 m_MX9_place s_MX9_place rfl (by omega) rfl (Nat.le_of_ble_eq_true rfl) ?_
    rintro _ _ _ (⟨rfl, rfl, rfl⟩)
    try dsimp only [zov, Option.toList, List.cons_append, List.nil_append]
    refine z_ialoadv (pc := 41) dX6_lineOf_41 (by assumption) (by with_reducible rfl) (by omega) (by decide) (by first | assumption | exact v3 _ (by omega) | exact v4 _ (by omega) | exact v5 _ (by omega) | rfl) ?_
    refine z_iret (pc := 42) dX6_lineOf_42 rfl ?_
    exact ⟨by obtain rfl : w = 2 := (by omega); rfl, rfl, rfl⟩
set_option maxHeartbeats 2000000 in
set_option maxRecDepth 20000 in
theorem l_X6_allCounts {lay : List zL} {Q : Value → zI → zJ → Prop} {I : zI} {J : zJ} {d : Nat} {s : Nat} {n : Nat → Nat} (hS : kS lay s) (hV : vS I s n) (hB : bS n) : ∀ (m i j x : Nat), 4 * (n 0 - i) + (n 1 - j) < m → i < n 0 → j ≤ n 1 → Q (.int (nI (x + zlsum (fun k => n (7 + k)) (zl (n 0) (n 1) (3 * i + j))))) I J → Z lay MX6_allCounts (d + 1) 14 [.ref s, .int (nI x), .int (nI i), .int (nI j)] [] I J Q := by
  have hS' := hS
  have hV' := hV
  have hB' := hB
  obtain ⟨h1, h2, h3, h4⟩ := hS
  obtain ⟨v0, v1, v2, v3, v4, v5⟩ := hV
  obtain ⟨b1, b2, b3, b4, b5, b6, b7, b8⟩ := hB
  intro m
  induction m with
  | zero => intro i j x h; exact absurd h (by omega)
  | succ m ih =>
    intro i j x hm hi hj hq
    refine z_iload_n (pc := 14) dX6_allCounts_14 rfl rfl ?_
    refine z_aload_n (pc := 15) dX6_allCounts_15 rfl rfl ?_
    refine z_getIv (pc := 16) dX6_allCounts_16 f_RX6_29 (by assumption) rfl (by first | assumption | exact v3 _ (by omega) | exact v4 _ (by omega) | exact v5 _ (by omega) | rfl) ?_
    first | refine z_icmp_geN (pc := 19) (tgt := 41) (by with_reducible rfl) (by with_reducible rfl) dX6_allCounts_19 (by decide) (by omega) (by omega) (fun hb19 => ?_) (fun hb19 => ?_) | refine z_icmp_ge (pc := 19) (tgt := 41) dX6_allCounts_19 (by decide) (fun hb19 => ?_) (fun hb19 => ?_)
    · obtain rfl : j = n 1 := (by omega); rw [zl_row _ b2 _ b4 _ hi] at hq; have hq2 := hq
      first | refine z_iincN (pc := 41) (c := 1) dX6_allCounts_41 rfl (by with_reducible rfl) (by decide) (by decide) rfl ?_ | refine z_iinc (pc := 41) dX6_allCounts_41 rfl rfl (by decide) rfl ?_
      try dsimp only [zst1, zst2, zk]
      refine z_goto (pc := 44) (tgt := 4) dX6_allCounts_44 (by decide) ?_
      refine z_iload_n (pc := 4) dX6_allCounts_4 rfl rfl ?_
      refine z_aload_n (pc := 5) dX6_allCounts_5 rfl rfl ?_
      refine z_getIv (pc := 6) dX6_allCounts_6 f_RX6_25 (by assumption) rfl (by first | assumption | exact v3 _ (by omega) | exact v4 _ (by omega) | exact v5 _ (by omega) | rfl) ?_
      first | refine z_icmp_geN (pc := 9) (tgt := 47) (by with_reducible rfl) (by with_reducible rfl) dX6_allCounts_9 (by decide) (by omega) (by omega) (fun hb9 => ?_) (fun hb9 => ?_) | refine z_icmp_ge (pc := 9) (tgt := 47) dX6_allCounts_9 (by decide) (fun hb9 => ?_) (fun hb9 => ?_)
      · obtain h9 : i + 1 = n 0 := (by omega); rw [h9, zl_end _ b2 _ b4] at hq2
        refine z_iload_n (pc := 47) dX6_allCounts_47 rfl rfl ?_
        refine z_iret (pc := 48) dX6_allCounts_48 rfl ?_
        exact hq2
      · skip
        refine z_iconst (pc := 12) (v := nI 0) dX6_allCounts_12 (by decide) ?_
        refine z_istore_n (pc := 13) dX6_allCounts_13 rfl (by decide) rfl ?_
        try dsimp only [zst1, zst2, zk]
        first | exact ih i (j + 1) _ (by omega) (by omega) (by omega) (by rw [Nat.add_assoc]; exact hq) | exact ih (i + 1) 0 _ (by omega) (by omega) (by omega) hq2
    · rw [zl_in _ b2 _ b4 _ hi _ (by omega)] at hq
      refine z_iload_n (pc := 22) dX6_allCounts_22 rfl rfl ?_
      refine z_aload_n (pc := 23) dX6_allCounts_23 rfl rfl ?_
      refine z_getR (pc := 24) dX6_allCounts_24 f_RX6_9 (by assumption) rfl ?_
      refine z_iload_n (pc := 27) dX6_allCounts_27 rfl rfl ?_
      refine z_iload_n (pc := 28) dX6_allCounts_28 rfl rfl ?_
      refine z_callN (pc := 29) c_X9_place dX6_allCounts_29 zN_46 m_MX9_place s_MX9_place rfl (by omega) rfl (Nat.le_of_ble_eq_true rfl) ?_
      rintro _ _ _ (⟨rfl, rfl, rfl⟩)
      try dsimp only [zov, Option.toList, List.cons_append, List.nil_append]
      refine z_ialoadv (pc := 32) dX6_allCounts_32 (by assumption) (by with_reducible rfl) (by omega) (by decide) (by first | assumption | exact v3 _ (by omega) | exact v4 _ (by omega) | exact v5 _ (by omega) | rfl) ?_
      first | refine z_iaddN (pc := 33) (by with_reducible rfl) (by with_reducible rfl) dX6_allCounts_33 ?_ | refine z_iadd (pc := 33) dX6_allCounts_33 ?_
      refine z_istore_n (pc := 34) dX6_allCounts_34 rfl (by decide) rfl ?_
      try dsimp only [zst1, zst2, zk]
      first | refine z_iincN (pc := 35) (c := 1) dX6_allCounts_35 rfl (by with_reducible rfl) (by decide) (by decide) rfl ?_ | refine z_iinc (pc := 35) dX6_allCounts_35 rfl rfl (by decide) rfl ?_
      try dsimp only [zst1, zst2, zk]
      refine z_goto (pc := 38) (tgt := 14) dX6_allCounts_38 (by decide) ?_
      first | exact ih i (j + 1) _ (by omega) (by omega) (by omega) (by rw [Nat.add_assoc]; exact hq) | exact ih (i + 1) 0 _ (by omega) (by omega) (by omega) hq2
set_option maxHeartbeats 2000000 in
set_option maxRecDepth 20000 in
theorem c_X6_allCounts {lay : List zL} {I : zI} {J : zJ} {s : Nat} {n : Nat → Nat} (hS : kS lay s) (hV : vS I s n) (hB : bS n) : zMet lay MX6_allCounts 1 [.ref s] I J (fun r I' J' => r = .int (nI (zlsum (fun k => n (7 + k)) (zl (n 0) (n 1) 0))) ∧ I = I' ∧ J = J') := by
  refine zMet_of (t := MX6_allCounts) (ls := [.ref s, .null, .null, .null]) (by decide +kernel) (Nat.le_of_ble_eq_true rfl) rfl ?_
  have hS' := hS
  have hV' := hV
  have hB' := hB
  obtain ⟨h1, h2, h3, h4⟩ := hS
  obtain ⟨v0, v1, v2, v3, v4, v5⟩ := hV
  obtain ⟨b1, b2, b3, b4, b5, b6, b7, b8⟩ := hB
  refine z_iconst (pc := 0) (v := nI 0) dX6_allCounts_0 (by decide) ?_
  refine z_istore_n (pc := 1) dX6_allCounts_1 rfl (by decide) rfl ?_
  try dsimp only [zst1, zst2, zk]
  refine z_iconst (pc := 2) (v := nI 0) dX6_allCounts_2 (by decide) ?_
  refine z_istore_n (pc := 3) dX6_allCounts_3 rfl (by decide) rfl ?_
  try dsimp only [zst1, zst2, zk]
  refine z_iload_n (pc := 4) dX6_allCounts_4 rfl rfl ?_
  refine z_aload_n (pc := 5) dX6_allCounts_5 rfl rfl ?_
  refine z_getIv (pc := 6) dX6_allCounts_6 f_RX6_25 (by assumption) rfl (by first | assumption | exact v3 _ (by omega) | exact v4 _ (by omega) | exact v5 _ (by omega) | rfl) ?_
  first | refine z_icmp_geN (pc := 9) (tgt := 47) (by with_reducible rfl) (by with_reducible rfl) dX6_allCounts_9 (by decide) (by omega) (by omega) (fun hb9 => absurd hb9 (by omega)) (fun hb9 => ?_) | refine z_icmp_ge (pc := 9) (tgt := 47) dX6_allCounts_9 (by decide) (fun hb9 => absurd hb9 (by omega)) (fun hb9 => ?_)
  · skip
    refine z_iconst (pc := 12) (v := nI 0) dX6_allCounts_12 (by decide) ?_
    refine z_istore_n (pc := 13) dX6_allCounts_13 rfl (by decide) rfl ?_
    try dsimp only [zst1, zst2, zk]
    exact l_X6_allCounts hS' hV' hB' 100 0 0 0 (by omega) (by omega) (by omega) ⟨by rw [Nat.zero_add], rfl, rfl⟩
