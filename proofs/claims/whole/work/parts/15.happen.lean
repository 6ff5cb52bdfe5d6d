/-! ===== what happens to a setting; the table ===== -/
def zevok (n : Nat → Nat) (w v : Nat) : Prop := (w = 0 ∧ v / 10 < n 0 ∧ v % 10 < n 1) ∨ (w = 1 ∧ v < n 0) ∨ (w = 2 ∧ v < n 1) ∨ (w = 3 ∧ v ≤ 60)
def zhap (n : Nat → Nat) (w v : Nat) : Nat → Nat := fun k => if w = 0 then (if k = 7 + (3 * (v / 10) + v % 10) then 0 else n k) else if w = 3 then (if 25 ≤ k ∧ k < 25 + n 0 then v else n k) else (if k = 25 + (3 * (w - 1) + v) then min 60 (n k + 1) else n k)
theorem vS_up3 {I : zI} {s : Nat} {n n' : Nat → Nat} {a v : Nat} (h : vS I s n) (ha : a < 9) (h1 : n' (25 + a) = v) (h2 : ∀ k, k ≠ 25 + a → n' k = n k) : vS (zup I (s + 3) a (nI v)) s n' := by
  obtain ⟨v0, v1, v2, v3, v4, v5⟩ := h
  refine ⟨?_, ?_, ?_, fun k hk => ?_, fun k hk => ?_, fun k hk => ?_⟩
  · rw [zup_o (by omega), h2 _ (by omega)]; exact v0
  · rw [zup_o (by omega), h2 _ (by omega)]; exact v1
  · rw [zup_o (by omega), h2 _ (by omega)]; exact v2
  · rw [zup_o (by omega), h2 _ (by omega)]; exact v3 k hk
  · rw [zup_o (by omega), h2 _ (by omega)]; exact v4 k hk
  · rw [zup_a]
    show (if k = a then nI v else I (s + 3) k) = _
    by_cases q : k = a
    · subst q; rw [if_pos rfl, h1]
    · rw [if_neg q, h2 _ (by omega)]; exact v5 k hk
theorem vS_up1 {I : zI} {s : Nat} {n n' : Nat → Nat} {a v : Nat} (h : vS I s n) (ha : a < 9) (h1 : n' (7 + a) = v) (h2 : ∀ k, k ≠ 7 + a → n' k = n k) : vS (zup I (s + 1) a (nI v)) s n' := by
  obtain ⟨v0, v1, v2, v3, v4, v5⟩ := h
  refine ⟨?_, ?_, ?_, fun k hk => ?_, fun k hk => ?_, fun k hk => ?_⟩
  · rw [zup_o (by omega), h2 _ (by omega)]; exact v0
  · rw [zup_o (by omega), h2 _ (by omega)]; exact v1
  · rw [zup_o (by omega), h2 _ (by omega)]; exact v2
  · rw [zup_a]
    show (if k = a then nI v else I (s + 1) k) = _
    by_cases q : k = a
    · subst q; rw [if_pos rfl, h1]
    · rw [if_neg q, h2 _ (by omega)]; exact v3 k hk
  · rw [zup_o (by omega), h2 _ (by omega)]; exact v4 k hk
  · rw [zup_o (by omega), h2 _ (by omega)]; exact v5 k hk
set_option maxHeartbeats 2000000 in
set_option maxRecDepth 20000 in
theorem c_X6_raise {lay : List zL} {I : zI} {J : zJ} {s : Nat} {n : Nat → Nat} (hS : kS lay s) (hV : vS I s n) (hB : bS n) {w l : Nat} (hw : w ≤ 1) (hl : l < zlines (n 0) (n 1) w) (hz : zlines (n 0) (n 1) w ≤ 3) : zMet lay MX6_raise 2 [.ref s, .int (nI w), .int (nI l)] I J (fun r I' J' => r = .null ∧ (vS I' s (zhap n (w + 1) l) ∧ ∀ x, (x < s ∨ s + 3 < x) → I' x = I x) ∧ J = J') := by
  refine zMet_of (t := MX6_raise) (ls := [.ref s, .int (nI w), .int (nI l)]) (by decide +kernel) (Nat.le_of_ble_eq_true rfl) rfl ?_
  have hS' := hS
  have hV' := hV
  have hB' := hB
  obtain ⟨h1, h2, h3, h4⟩ := hS
  obtain ⟨v0, v1, v2, v3, v4, v5⟩ := hV
  obtain ⟨b1, b2, b3, b4, b5, b6, b7, b8⟩ := hB
  have hln : isLn (n 0) (n 1) (nI w) (nI l) := ⟨w, l, rfl, rfl, by omega, hl⟩
  refine z_aload_n (pc := 0) dX6_raise_0 rfl rfl ?_
  refine z_iload_n (pc := 1) dX6_raise_1 rfl rfl ?_
  refine z_iload_n (pc := 2) dX6_raise_2 rfl rfl ?_
  refine z_callV (pc := 3) (c_X6_hasLine (by assumption) (by assumption) (by assumption)) dX6_raise_3 l_RX6_78 m_MX6_hasLine n_MX6_hasLine e_MX6_hasLine rfl (by omega) (by assumption) rfl rfl (Nat.le_of_ble_eq_true rfl) ?_
  rintro _ _ _ ⟨⟨rfl, hL⟩ | ⟨rfl, hL⟩, rfl, rfl⟩
  · skip
    try dsimp only [zov, Option.toList, List.cons_append, List.nil_append]
    first | refine z_if_neN (pc := 6) (tgt := 10) (by with_reducible rfl) dX6_raise_6 (by decide) (by omega) (fun hb6 => ?_) (fun hb6 => absurd hb6 (by decide)) | refine z_if_ne (pc := 6) (tgt := 10) dX6_raise_6 (by decide) (fun hb6 => ?_) (fun hb6 => absurd hb6 (by decide))
    · skip
      refine z_aload_n (pc := 10) dX6_raise_10 rfl rfl ?_
      refine z_getR (pc := 11) dX6_raise_11 f_RX6_18 (by assumption) rfl ?_
      refine z_iload_n (pc := 14) dX6_raise_14 rfl rfl ?_
      refine z_iload_n (pc := 15) dX6_raise_15 rfl rfl ?_
      refine z_callN (pc := 16) c_X9_place dX6_raise_16 zN_46 m_MX9_place s_MX9_place rfl (by omega) rfl (Nat.le_of_ble_eq_true rfl) ?_
      rintro _ _ _ (⟨rfl, rfl, rfl⟩)
      try dsimp only [zov, Option.toList, List.cons_append, List.nil_append]
      refine z_bipush (pc := 19) (v := nI 60) dX6_raise_19 (by decide) ?_
      refine z_aload_n (pc := 21) dX6_raise_21 rfl rfl ?_
      refine z_getR (pc := 22) dX6_raise_22 f_RX6_18 (by assumption) rfl ?_
      refine z_iload_n (pc := 25) dX6_raise_25 rfl rfl ?_
      refine z_iload_n (pc := 26) dX6_raise_26 rfl rfl ?_
      refine z_callN (pc := 27) c_X9_place dX6_raise_27 zN_46 m_MX9_place s_MX9_place rfl (by omega) rfl (Nat.le_of_ble_eq_true rfl) ?_
      rintro _ _ _ (⟨rfl, rfl, rfl⟩)
      try dsimp only [zov, Option.toList, List.cons_append, List.nil_append]
      refine z_ialoadv (pc := 30) dX6_raise_30 (by assumption) (by with_reducible rfl) (by omega) (by decide) (by first | assumption | exact v3 _ (by omega) | exact v4 _ (by omega) | exact v5 _ (by omega) | rfl) ?_
      refine z_iconst (pc := 31) (v := nI 1) dX6_raise_31 (by decide) ?_
      first | refine z_iaddN (pc := 32) (by with_reducible rfl) (by with_reducible rfl) dX6_raise_32 ?_ | refine z_iadd (pc := 32) dX6_raise_32 ?_
      have b8a := b8 (3 * w + l) (by omega)
      refine z_mmin (pc := 33) dX6_raise_33 l_RX6_81 (by with_reducible rfl) (by with_reducible rfl) (by omega) (by omega) (by omega) (Nat.le_of_ble_eq_true rfl) ?_
      refine z_iastore (pc := 36) dX6_raise_36 (by assumption) (by with_reducible rfl) (by omega) (by decide) ?_
      refine z_vret (pc := 37) dX6_raise_37 rfl ?_
      refine ⟨rfl, ⟨vS_up3 hV' (by omega) ?_ ?_, fun x hx => zup_o (by omega)⟩, rfl⟩
      · show zhap n (w + 1) l (25 + (3 * w + l)) = _
        unfold zhap
        rw [if_neg (by omega), if_neg (by omega), if_pos (by omega)]
      · intro k hk
        unfold zhap
        rw [if_neg (by omega), if_neg (by omega), if_neg (by omega)]
  · exact absurd hln hL
def zhI (I0 : zI) (s v m : Nat) (I : zI) : Prop := I s = I0 s ∧ I (s + 1) = I0 (s + 1) ∧ I (s + 2) = I0 (s + 2) ∧ (∀ y, I (s + 3) y = if y < m then nI v else I0 (s + 3) y) ∧ ∀ x, (x < s ∨ s + 3 < x) → I x = I0 x
theorem zhI_step {I0 I : zI} {s v k : Nat} (h : zhI I0 s v k I) : zhI I0 s v (k + 1) (zup I (s + 3) k (nI v)) := by
  obtain ⟨h0, h1, h2, h3, h4⟩ := h
  refine ⟨?_, ?_, ?_, fun y => ?_, fun x hx => ?_⟩
  · rw [zup_o (by omega)]; exact h0
  · rw [zup_o (by omega)]; exact h1
  · rw [zup_o (by omega)]; exact h2
  · rw [zup_a]
    show (if y = k then nI v else I (s + 3) y) = _
    rw [h3]
    by_cases q : y = k
    · rw [if_pos q, if_pos (by omega)]
    · rw [if_neg q]
      by_cases q2 : y < k
      · rw [if_pos q2, if_pos (by omega)]
      · rw [if_neg q2, if_neg (by omega)]
  · rw [zup_o (by omega)]; exact h4 x hx
set_option maxHeartbeats 2000000 in
set_option maxRecDepth 20000 in
theorem l_X6_happen {lay : List zL} {Q : Value → zI → zJ → Prop} {J : zJ} {d s v : Nat} {I0 : zI} {n : Nat → Nat} (hS : kS lay s) (hr : n 0 ≤ 3) (h0 : I0 s 0 = nI (n 0)) : ∀ (m k : Nat) (I : zI), k + m = n 0 → zhI I0 s v k I → (∀ I', zhI I0 s v (n 0) I' → Q .null I' J) → Z lay MX6_happen (d + 1) 87 [.ref s, .int (nI 3), .int (nI v), .int (nI k)] [] I J Q := by
  obtain ⟨h1, h2, h3, h4⟩ := hS
  intro m
  induction m with
  | zero =>
    intro k I hk h hq
    obtain rfl : k = n 0 := (by omega)
    have hr0 : I s 0 = nI (n 0) := (by rw [h.1]; exact h0)
    refine z_iload_n (pc := 87) dX6_happen_87 rfl rfl ?_
    refine z_aload_n (pc := 88) dX6_happen_88 rfl rfl ?_
    refine z_getIv (pc := 89) dX6_happen_89 f_RX6_25 (by assumption) rfl (by first | assumption | rfl) ?_
    first | refine z_icmp_geN (pc := 92) (tgt := 112) (by with_reducible rfl) (by with_reducible rfl) dX6_happen_92 (by decide) (by omega) (by omega) (fun hb92 => ?_) (fun hb92 => absurd hb92 (by omega)) | refine z_icmp_ge (pc := 92) (tgt := 112) dX6_happen_92 (by decide) (fun hb92 => ?_) (fun hb92 => absurd hb92 (by omega))
    · skip
      refine z_vret (pc := 112) dX6_happen_112 rfl ?_
      exact hq _ h
  | succ m ih =>
    intro k I hk h hq
    have hr0 : I s 0 = nI (n 0) := (by rw [h.1]; exact h0)
    refine z_iload_n (pc := 87) dX6_happen_87 rfl rfl ?_
    refine z_aload_n (pc := 88) dX6_happen_88 rfl rfl ?_
    refine z_getIv (pc := 89) dX6_happen_89 f_RX6_25 (by assumption) rfl (by first | assumption | rfl) ?_
    first | refine z_icmp_geN (pc := 92) (tgt := 112) (by with_reducible rfl) (by with_reducible rfl) dX6_happen_92 (by decide) (by omega) (by omega) (fun hb92 => absurd hb92 (by omega)) (fun hb92 => ?_) | refine z_icmp_ge (pc := 92) (tgt := 112) dX6_happen_92 (by decide) (fun hb92 => absurd hb92 (by omega)) (fun hb92 => ?_)
    · skip
      refine z_aload_n (pc := 95) dX6_happen_95 rfl rfl ?_
      refine z_getR (pc := 96) dX6_happen_96 f_RX6_18 (by assumption) rfl ?_
      refine z_iconst (pc := 99) (v := nI 0) dX6_happen_99 (by decide) ?_
      refine z_iload_n (pc := 100) dX6_happen_100 rfl rfl ?_
      refine z_callN (pc := 101) c_X9_place dX6_happen_101 zN_46 m_MX9_place s_MX9_place rfl (by omega) rfl (Nat.le_of_ble_eq_true rfl) ?_
      rintro _ _ _ (⟨rfl, rfl, rfl⟩)
      try dsimp only [zov, Option.toList, List.cons_append, List.nil_append]
      rw [show 3 * 0 + k = k by omega]
      refine z_iload_n (pc := 104) dX6_happen_104 rfl rfl ?_
      refine z_iastore (pc := 105) dX6_happen_105 (by assumption) (by with_reducible rfl) (by omega) (by decide) ?_
      first | refine z_iincN (pc := 106) (c := 1) dX6_happen_106 rfl (by with_reducible rfl) (by decide) (by decide) rfl ?_ | refine z_iinc (pc := 106) dX6_happen_106 rfl rfl (by decide) rfl ?_
      try dsimp only [zst1, zst2, zk]
      refine z_goto (pc := 109) (tgt := 87) dX6_happen_109 (by decide) ?_
      exact ih (k + 1) _ (by omega) (zhI_step h) hq
set_option maxHeartbeats 2000000 in
set_option maxRecDepth 20000 in
theorem c_X6_happen {lay : List zL} {I : zI} {J : zJ} {s : Nat} {n : Nat → Nat} (hS : kS lay s) (hV : vS I s n) (hB : bS n) {w v : Nat} (hw : zevok n w v) : zMet lay MX6_happen 3 [.ref s, .int (nI w), .int (nI v)] I J (fun r I' J' => r = .null ∧ (vS I' s (zhap n w v) ∧ ∀ x, (x < s ∨ s + 3 < x) → I' x = I x) ∧ J = J') := by
  refine zMet_of (t := MX6_happen) (ls := [.ref s, .int (nI w), .int (nI v), .null]) (by decide +kernel) (Nat.le_of_ble_eq_true rfl) rfl ?_
  have hS' := hS
  have hV' := hV
  have hB' := hB
  obtain ⟨h1, h2, h3, h4⟩ := hS
  obtain ⟨v0, v1, v2, v3, v4, v5⟩ := hV
  obtain ⟨b1, b2, b3, b4, b5, b6, b7, b8⟩ := hB
  rcases hw with ⟨rfl, h8, h9⟩ | ⟨rfl, h8⟩ | ⟨rfl, h8⟩ | ⟨rfl, h8⟩
  · skip
    refine z_iload_n (pc := 0) dX6_happen_0 rfl rfl ?_
    refine z_tableIn (pc := 1) (off := 27) (tgt := 28) dX6_happen_1 (by decide) (by decide) (by decide) (by decide) ?_
    refine z_iload_n (pc := 28) dX6_happen_28 rfl rfl ?_
    first | refine z_if_ltN (pc := 29) (tgt := 112) (by with_reducible rfl) dX6_happen_29 (by decide) (by omega) (fun hb29 => absurd hb29 (fun h => h)) (fun hb29 => ?_) | refine z_if_lt (pc := 29) (tgt := 112) dX6_happen_29 (by decide) (fun hb29 => absurd hb29 (fun h => h)) (fun hb29 => ?_)
    · skip
      refine z_aload_n (pc := 32) dX6_happen_32 rfl rfl ?_
      refine z_iload_n (pc := 33) dX6_happen_33 rfl rfl ?_
      refine z_bipush (pc := 34) (v := nI 10) dX6_happen_34 (by decide) ?_
      refine z_idivN (pc := 36) (by with_reducible rfl) (by with_reducible rfl) dX6_happen_36 (by omega) (by omega) (by omega) ?_
      refine z_iload_n (pc := 37) dX6_happen_37 rfl rfl ?_
      refine z_bipush (pc := 38) (v := nI 10) dX6_happen_38 (by decide) ?_
      refine z_iremN (pc := 40) (by with_reducible rfl) (by with_reducible rfl) dX6_happen_40 (by omega) (by omega) (by omega) ?_
      refine z_callV (pc := 41) (c_X6_hasCell (by assumption) (by assumption) (by assumption)) dX6_happen_41 l_RX6_72 m_MX6_hasCell n_MX6_hasCell e_MX6_hasCell rfl (by omega) (by assumption) rfl rfl (Nat.le_of_ble_eq_true rfl) ?_
      rintro _ _ _ ⟨⟨rfl, hC⟩ | ⟨rfl, hC⟩, rfl, rfl⟩
      · skip
        try dsimp only [zov, Option.toList, List.cons_append, List.nil_append]
        first | refine z_if_eqN (pc := 44) (tgt := 112) (by with_reducible rfl) dX6_happen_44 (by decide) (by omega) (fun hb44 => absurd hb44 (by decide)) (fun hb44 => ?_) | refine z_if_eq (pc := 44) (tgt := 112) dX6_happen_44 (by decide) (fun hb44 => absurd hb44 (by decide)) (fun hb44 => ?_)
        · skip
          refine z_aload_n (pc := 47) dX6_happen_47 rfl rfl ?_
          refine z_getR (pc := 48) dX6_happen_48 f_RX6_9 (by assumption) rfl ?_
          refine z_iload_n (pc := 51) dX6_happen_51 rfl rfl ?_
          refine z_bipush (pc := 52) (v := nI 10) dX6_happen_52 (by decide) ?_
          refine z_idivN (pc := 54) (by with_reducible rfl) (by with_reducible rfl) dX6_happen_54 (by omega) (by omega) (by omega) ?_
          refine z_iload_n (pc := 55) dX6_happen_55 rfl rfl ?_
          refine z_bipush (pc := 56) (v := nI 10) dX6_happen_56 (by decide) ?_
          refine z_iremN (pc := 58) (by with_reducible rfl) (by with_reducible rfl) dX6_happen_58 (by omega) (by omega) (by omega) ?_
          refine z_callN (pc := 59) c_X9_place dX6_happen_59 zN_46 m_MX9_place s_MX9_place rfl (by omega) rfl (Nat.le_of_ble_eq_true rfl) ?_
          rintro _ _ _ (⟨rfl, rfl, rfl⟩)
          try dsimp only [zov, Option.toList, List.cons_append, List.nil_append]
          refine z_iconst (pc := 62) (v := nI 0) dX6_happen_62 (by decide) ?_
          refine z_iastore (pc := 63) dX6_happen_63 (by assumption) (by with_reducible rfl) (by omega) (by decide) ?_
          refine z_goto (pc := 64) (tgt := 112) dX6_happen_64 (by decide) ?_
          refine z_vret (pc := 112) dX6_happen_112 rfl ?_
          refine ⟨rfl, ⟨vS_up1 hV' (by omega) ?_ ?_, fun x hx => zup_o (by omega)⟩, rfl⟩
          · unfold zhap; rw [if_pos rfl, if_pos rfl]
          · intro k hk; unfold zhap; rw [if_pos rfl, if_neg hk]
      · exact absurd ⟨_, _, rfl, rfl, h8, h9⟩ hC
  · skip
    refine z_iload_n (pc := 0) dX6_happen_0 rfl rfl ?_
    refine z_tableIn (pc := 1) (off := 66) (tgt := 67) dX6_happen_1 (by decide) (by decide) (by decide) (by decide) ?_
    refine z_aload_n (pc := 67) dX6_happen_67 rfl rfl ?_
    refine z_iconst (pc := 68) (v := nI 0) dX6_happen_68 (by decide) ?_
    refine z_iload_n (pc := 69) dX6_happen_69 rfl rfl ?_
    refine z_callV (pc := 70) (c_X6_raise (by assumption) (by assumption) (by assumption) (by omega) (by exact h8) (zlines_le b2 b4)) dX6_happen_70 l_RX6_75 m_MX6_raise n_MX6_raise e_MX6_raise rfl (by omega) (by assumption) rfl rfl (Nat.le_of_ble_eq_true rfl) ?_
    rintro _ _ _ (⟨rfl, ⟨hV2, hF2⟩, rfl⟩)
    try dsimp only [zov, Option.toList, List.cons_append, List.nil_append]
    refine z_goto (pc := 73) (tgt := 112) dX6_happen_73 (by decide) ?_
    refine z_vret (pc := 112) dX6_happen_112 rfl ?_
    exact ⟨rfl, ⟨hV2, hF2⟩, rfl⟩
  · skip
    refine z_iload_n (pc := 0) dX6_happen_0 rfl rfl ?_
    refine z_tableIn (pc := 1) (off := 75) (tgt := 76) dX6_happen_1 (by decide) (by decide) (by decide) (by decide) ?_
    refine z_aload_n (pc := 76) dX6_happen_76 rfl rfl ?_
    refine z_iconst (pc := 77) (v := nI 1) dX6_happen_77 (by decide) ?_
    refine z_iload_n (pc := 78) dX6_happen_78 rfl rfl ?_
    refine z_callV (pc := 79) (c_X6_raise (by assumption) (by assumption) (by assumption) (by omega) (by exact h8) (zlines_le b2 b4)) dX6_happen_79 l_RX6_75 m_MX6_raise n_MX6_raise e_MX6_raise rfl (by omega) (by assumption) rfl rfl (Nat.le_of_ble_eq_true rfl) ?_
    rintro _ _ _ (⟨rfl, ⟨hV2, hF2⟩, rfl⟩)
    try dsimp only [zov, Option.toList, List.cons_append, List.nil_append]
    refine z_goto (pc := 82) (tgt := 112) dX6_happen_82 (by decide) ?_
    refine z_vret (pc := 112) dX6_happen_112 rfl ?_
    exact ⟨rfl, ⟨hV2, hF2⟩, rfl⟩
  · skip
    refine z_iload_n (pc := 0) dX6_happen_0 rfl rfl ?_
    refine z_tableOut (pc := 1) (tgt := 85) dX6_happen_1 (by right; decide) (by decide) ?_
    refine z_iconst (pc := 85) (v := nI 0) dX6_happen_85 (by decide) ?_
    refine z_istore_n (pc := 86) dX6_happen_86 rfl (by decide) rfl ?_
    try dsimp only [zst1, zst2, zk]
    refine l_X6_happen hS' b2 v0 (n 0) 0 _ (Nat.zero_add _) ⟨rfl, rfl, rfl, fun y => by rw [if_neg (by omega)], fun _ _ => rfl⟩ (fun I' h => ⟨rfl, ?_, rfl⟩)
    obtain ⟨p0, p1, p2, p3, p4⟩ := h
    refine ⟨⟨?_, ?_, ?_, fun k hk => ?_, fun k hk => ?_, fun k hk => ?_⟩, p4⟩
    · rw [p0]; exact v0
    · rw [p0]; exact v1
    · rw [p0]; exact v2
    · rw [p1, v3 k hk]; unfold zhap; rw [if_neg (by omega), if_pos rfl, if_neg (by omega)]
    · rw [p2, v4 k hk]; unfold zhap; rw [if_neg (by omega), if_pos rfl, if_neg (by omega)]
    · rw [p3, show zhap n 3 v (25 + k) = if 25 ≤ 25 + k ∧ 25 + k < 25 + n 0 then v else n (25 + k) from rfl]
      by_cases q : k < n 0
      · rw [if_pos q, if_pos (by omega)]
      · rw [if_neg q, if_neg (by omega), v5 k hk]
