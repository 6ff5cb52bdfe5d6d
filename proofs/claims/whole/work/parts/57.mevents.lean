/-! ===== the model's calls: events ===== -/
def zofy (n : Nat → Nat) (w v : Int32) : Prop := (∃ a b, w = nI a ∧ v = nI b ∧ zevok n a b ∧ b ≤ 99 ∧ a ≤ 2) ∨ w = nI 3
set_option maxHeartbeats 2000000 in
set_option maxRecDepth 20000 in
theorem c_X10_isOf {lay : List zL} {I : zI} {J : zJ} {n : Nat → Nat} (hM : kM lay) (hW : vW I n) (hB : bS n) {w v : Int32} : zMet lay MX10_isOf 2 [.ref 79, .int w, .int v] I J (fun r I' J' => ((r = .int (nI 1) ∧ zofy n w v) ∨ (r = .int (nI 0) ∧ zev n w v = .inl (-1))) ∧ I = I' ∧ J = J') := by
  refine zMet_of (t := MX10_isOf) (ls := [.ref 79, .int w, .int v]) (by decide +kernel) (Nat.le_of_ble_eq_true rfl) rfl ?_
  obtain ⟨mo, m80, m81, m82, m83, m84, m85, m86, m87, m88, m89, m90, m91, m92, m93, m94, m95, m96⟩ := id hM
  have hwv := hW
  obtain ⟨b1, b2, b3, b4, b5, b6, b7, b8⟩ := id hB
  refine z_iload_n (pc := 0) dX10_isOf_0 rfl rfl ?_
  by_cases hsw0 : w = nI 0
  · subst hsw0
    refine z_tableIn (pc := 1) (off := 27) (tgt := 28) dX10_isOf_1 (by decide) (by decide) (by decide) (by decide) ?_
    refine z_iload_n (pc := 28) dX10_isOf_28 rfl rfl ?_
    first | refine z_if_ltN (pc := 29) (tgt := 51) (by with_reducible rfl) dX10_isOf_29 (by decide) (by omega) (fun hb29 => ?_) (fun hb29 => ?_) | refine z_if_lt (pc := 29) (tgt := 51) dX10_isOf_29 (by decide) (fun hb29 => ?_) (fun hb29 => ?_)
    · skip
      refine z_iconst (pc := 51) (v := nI 0) dX10_isOf_51 (by decide) ?_
      refine z_zret (pc := 52) dX10_isOf_52 rfl (by first | decide | assumption) ?_
      first
        | exact ⟨Or.inl ⟨rfl, Or.inl ⟨0, b, rfl, rfl, Or.inl ⟨rfl, hc⟩, by omega, by omega⟩⟩, rfl, rfl⟩
        | exact ⟨Or.inl ⟨rfl, Or.inl ⟨1, b, rfl, rfl, Or.inr (Or.inl ⟨rfl, h3⟩), by omega, by omega⟩⟩, rfl, rfl⟩
        | exact ⟨Or.inl ⟨rfl, Or.inl ⟨2, b, rfl, rfl, Or.inr (Or.inr (Or.inl ⟨rfl, h3⟩)), by omega, by omega⟩⟩, rfl, rfl⟩
        | exact ⟨Or.inl ⟨rfl, Or.inr hb69⟩, rfl, rfl⟩
        | exact ⟨Or.inr ⟨rfl, zev_n (zev_m hb29) (by decide)⟩, rfl, rfl⟩
        | exact ⟨Or.inr ⟨rfl, zev_n (zev_c (by omega) b2 b4 hc) (by decide)⟩, rfl, rfl⟩
        | exact ⟨Or.inr ⟨rfl, zev_n (zev_l (w := 0) (by omega) b2 b4 hc) (by decide)⟩, rfl, rfl⟩
        | exact ⟨Or.inr ⟨rfl, zev_n (zev_l (w := 1) (by omega) b2 b4 hc) (by decide)⟩, rfl, rfl⟩
        | exact ⟨Or.inr ⟨rfl, zev_n (zev_o hsw0 hsw1 hsw2 hb69) hb69⟩, rfl, rfl⟩
        | fail
    · skip
      obtain ⟨b, rfl, hbm⟩ := nI_any hb29
      refine z_aload_n (pc := 32) dX10_isOf_32 rfl rfl ?_
      refine z_iload_n (pc := 33) dX10_isOf_33 rfl rfl ?_
      refine z_bipush (pc := 34) (v := nI 10) dX10_isOf_34 (by decide) ?_
      refine z_idivN (pc := 36) (by with_reducible rfl) (by with_reducible rfl) dX10_isOf_36 (by omega) (by omega) (by omega) ?_
      refine z_iload_n (pc := 37) dX10_isOf_37 rfl rfl ?_
      refine z_bipush (pc := 38) (v := nI 10) dX10_isOf_38 (by decide) ?_
      refine z_iremN (pc := 40) (by with_reducible rfl) (by with_reducible rfl) dX10_isOf_40 (by omega) (by omega) (by omega) ?_
      refine z_callV (pc := 41) (c_X10_isCell hM hW hB) dX10_isOf_41 l_RX10_72 m_MX10_isCell n_MX10_isCell e_MX10_isCell rfl (by omega) (by assumption) rfl rfl (Nat.le_of_ble_eq_true rfl) ?_
      rintro _ _ _ ⟨⟨rfl, hc⟩ | ⟨rfl, hc⟩, rfl, rfl⟩
      · rw [isC_N b2 b4 (by omega) (by omega)] at hc
        try dsimp only [zov, Option.toList, List.cons_append, List.nil_append]
        first | refine z_if_eqN (pc := 44) (tgt := 51) (by with_reducible rfl) dX10_isOf_44 (by decide) (by omega) (fun hb44 => absurd hb44 (by decide)) (fun hb44 => ?_) | refine z_if_eq (pc := 44) (tgt := 51) dX10_isOf_44 (by decide) (fun hb44 => absurd hb44 (by decide)) (fun hb44 => ?_)
        · skip
          refine z_iconst (pc := 47) (v := nI 1) dX10_isOf_47 (by decide) ?_
          refine z_goto (pc := 48) (tgt := 52) dX10_isOf_48 (by decide) ?_
          refine z_zret (pc := 52) dX10_isOf_52 rfl (by first | decide | assumption) ?_
          first
            | exact ⟨Or.inl ⟨rfl, Or.inl ⟨0, b, rfl, rfl, Or.inl ⟨rfl, hc⟩, by omega, by omega⟩⟩, rfl, rfl⟩
            | exact ⟨Or.inl ⟨rfl, Or.inl ⟨1, b, rfl, rfl, Or.inr (Or.inl ⟨rfl, h3⟩), by omega, by omega⟩⟩, rfl, rfl⟩
            | exact ⟨Or.inl ⟨rfl, Or.inl ⟨2, b, rfl, rfl, Or.inr (Or.inr (Or.inl ⟨rfl, h3⟩)), by omega, by omega⟩⟩, rfl, rfl⟩
            | exact ⟨Or.inl ⟨rfl, Or.inr hb69⟩, rfl, rfl⟩
            | exact ⟨Or.inr ⟨rfl, zev_n (zev_m hb29) (by decide)⟩, rfl, rfl⟩
            | exact ⟨Or.inr ⟨rfl, zev_n (zev_c (by omega) b2 b4 hc) (by decide)⟩, rfl, rfl⟩
            | exact ⟨Or.inr ⟨rfl, zev_n (zev_l (w := 0) (by omega) b2 b4 hc) (by decide)⟩, rfl, rfl⟩
            | exact ⟨Or.inr ⟨rfl, zev_n (zev_l (w := 1) (by omega) b2 b4 hc) (by decide)⟩, rfl, rfl⟩
            | exact ⟨Or.inr ⟨rfl, zev_n (zev_o hsw0 hsw1 hsw2 hb69) hb69⟩, rfl, rfl⟩
            | fail
      · skip
        try dsimp only [zov, Option.toList, List.cons_append, List.nil_append]
        first | refine z_if_eqN (pc := 44) (tgt := 51) (by with_reducible rfl) dX10_isOf_44 (by decide) (by omega) (fun hb44 => ?_) (fun hb44 => absurd hb44 (by decide)) | refine z_if_eq (pc := 44) (tgt := 51) dX10_isOf_44 (by decide) (fun hb44 => ?_) (fun hb44 => absurd hb44 (by decide))
        · skip
          refine z_iconst (pc := 51) (v := nI 0) dX10_isOf_51 (by decide) ?_
          refine z_zret (pc := 52) dX10_isOf_52 rfl (by first | decide | assumption) ?_
          first
            | exact ⟨Or.inl ⟨rfl, Or.inl ⟨0, b, rfl, rfl, Or.inl ⟨rfl, hc⟩, by omega, by omega⟩⟩, rfl, rfl⟩
            | exact ⟨Or.inl ⟨rfl, Or.inl ⟨1, b, rfl, rfl, Or.inr (Or.inl ⟨rfl, h3⟩), by omega, by omega⟩⟩, rfl, rfl⟩
            | exact ⟨Or.inl ⟨rfl, Or.inl ⟨2, b, rfl, rfl, Or.inr (Or.inr (Or.inl ⟨rfl, h3⟩)), by omega, by omega⟩⟩, rfl, rfl⟩
            | exact ⟨Or.inl ⟨rfl, Or.inr hb69⟩, rfl, rfl⟩
            | exact ⟨Or.inr ⟨rfl, zev_n (zev_m hb29) (by decide)⟩, rfl, rfl⟩
            | exact ⟨Or.inr ⟨rfl, zev_n (zev_c (by omega) b2 b4 hc) (by decide)⟩, rfl, rfl⟩
            | exact ⟨Or.inr ⟨rfl, zev_n (zev_l (w := 0) (by omega) b2 b4 hc) (by decide)⟩, rfl, rfl⟩
            | exact ⟨Or.inr ⟨rfl, zev_n (zev_l (w := 1) (by omega) b2 b4 hc) (by decide)⟩, rfl, rfl⟩
            | exact ⟨Or.inr ⟨rfl, zev_n (zev_o hsw0 hsw1 hsw2 hb69) hb69⟩, rfl, rfl⟩
            | fail
  by_cases hsw1 : w = nI 1
  · subst hsw1
    refine z_tableIn (pc := 1) (off := 52) (tgt := 53) dX10_isOf_1 (by decide) (by decide) (by decide) (by decide) ?_
    refine z_aload_n (pc := 53) dX10_isOf_53 rfl rfl ?_
    refine z_iconst (pc := 54) (v := nI 0) dX10_isOf_54 (by decide) ?_
    refine z_iload_n (pc := 55) dX10_isOf_55 rfl rfl ?_
    refine z_callV (pc := 56) (c_X10_isLine hM hW hB) dX10_isOf_56 l_RX10_97 m_MX10_isLine n_MX10_isLine e_MX10_isLine rfl (by omega) (by assumption) rfl rfl (Nat.le_of_ble_eq_true rfl) ?_
    rintro _ _ _ ⟨⟨rfl, hc⟩ | ⟨rfl, hc⟩, rfl, rfl⟩
    · obtain ⟨a, b, e1, rfl, h2, h3⟩ := hc; have hz := zlines_le (w := a) b2 b4; have e2 := nI_inj (by omega) (by omega) e1; subst e2
      try dsimp only [zov, Option.toList, List.cons_append, List.nil_append]
      refine z_zret (pc := 59) dX10_isOf_59 rfl (by first | decide | assumption) ?_
      first
        | exact ⟨Or.inl ⟨rfl, Or.inl ⟨0, b, rfl, rfl, Or.inl ⟨rfl, hc⟩, by omega, by omega⟩⟩, rfl, rfl⟩
        | exact ⟨Or.inl ⟨rfl, Or.inl ⟨1, b, rfl, rfl, Or.inr (Or.inl ⟨rfl, h3⟩), by omega, by omega⟩⟩, rfl, rfl⟩
        | exact ⟨Or.inl ⟨rfl, Or.inl ⟨2, b, rfl, rfl, Or.inr (Or.inr (Or.inl ⟨rfl, h3⟩)), by omega, by omega⟩⟩, rfl, rfl⟩
        | exact ⟨Or.inl ⟨rfl, Or.inr hb69⟩, rfl, rfl⟩
        | exact ⟨Or.inr ⟨rfl, zev_n (zev_m hb29) (by decide)⟩, rfl, rfl⟩
        | exact ⟨Or.inr ⟨rfl, zev_n (zev_c (by omega) b2 b4 hc) (by decide)⟩, rfl, rfl⟩
        | exact ⟨Or.inr ⟨rfl, zev_n (zev_l (w := 0) (by omega) b2 b4 hc) (by decide)⟩, rfl, rfl⟩
        | exact ⟨Or.inr ⟨rfl, zev_n (zev_l (w := 1) (by omega) b2 b4 hc) (by decide)⟩, rfl, rfl⟩
        | exact ⟨Or.inr ⟨rfl, zev_n (zev_o hsw0 hsw1 hsw2 hb69) hb69⟩, rfl, rfl⟩
        | fail
    · skip
      try dsimp only [zov, Option.toList, List.cons_append, List.nil_append]
      refine z_zret (pc := 59) dX10_isOf_59 rfl (by first | decide | assumption) ?_
      first
        | exact ⟨Or.inl ⟨rfl, Or.inl ⟨0, b, rfl, rfl, Or.inl ⟨rfl, hc⟩, by omega, by omega⟩⟩, rfl, rfl⟩
        | exact ⟨Or.inl ⟨rfl, Or.inl ⟨1, b, rfl, rfl, Or.inr (Or.inl ⟨rfl, h3⟩), by omega, by omega⟩⟩, rfl, rfl⟩
        | exact ⟨Or.inl ⟨rfl, Or.inl ⟨2, b, rfl, rfl, Or.inr (Or.inr (Or.inl ⟨rfl, h3⟩)), by omega, by omega⟩⟩, rfl, rfl⟩
        | exact ⟨Or.inl ⟨rfl, Or.inr hb69⟩, rfl, rfl⟩
        | exact ⟨Or.inr ⟨rfl, zev_n (zev_m hb29) (by decide)⟩, rfl, rfl⟩
        | exact ⟨Or.inr ⟨rfl, zev_n (zev_c (by omega) b2 b4 hc) (by decide)⟩, rfl, rfl⟩
        | exact ⟨Or.inr ⟨rfl, zev_n (zev_l (w := 0) (by omega) b2 b4 hc) (by decide)⟩, rfl, rfl⟩
        | exact ⟨Or.inr ⟨rfl, zev_n (zev_l (w := 1) (by omega) b2 b4 hc) (by decide)⟩, rfl, rfl⟩
        | exact ⟨Or.inr ⟨rfl, zev_n (zev_o hsw0 hsw1 hsw2 hb69) hb69⟩, rfl, rfl⟩
        | fail
  by_cases hsw2 : w = nI 2
  · subst hsw2
    refine z_tableIn (pc := 1) (off := 59) (tgt := 60) dX10_isOf_1 (by decide) (by decide) (by decide) (by decide) ?_
    refine z_aload_n (pc := 60) dX10_isOf_60 rfl rfl ?_
    refine z_iconst (pc := 61) (v := nI 1) dX10_isOf_61 (by decide) ?_
    refine z_iload_n (pc := 62) dX10_isOf_62 rfl rfl ?_
    refine z_callV (pc := 63) (c_X10_isLine hM hW hB) dX10_isOf_63 l_RX10_97 m_MX10_isLine n_MX10_isLine e_MX10_isLine rfl (by omega) (by assumption) rfl rfl (Nat.le_of_ble_eq_true rfl) ?_
    rintro _ _ _ ⟨⟨rfl, hc⟩ | ⟨rfl, hc⟩, rfl, rfl⟩
    · obtain ⟨a, b, e1, rfl, h2, h3⟩ := hc; have hz := zlines_le (w := a) b2 b4; have e2 := nI_inj (by omega) (by omega) e1; subst e2
      try dsimp only [zov, Option.toList, List.cons_append, List.nil_append]
      refine z_zret (pc := 66) dX10_isOf_66 rfl (by first | decide | assumption) ?_
      first
        | exact ⟨Or.inl ⟨rfl, Or.inl ⟨0, b, rfl, rfl, Or.inl ⟨rfl, hc⟩, by omega, by omega⟩⟩, rfl, rfl⟩
        | exact ⟨Or.inl ⟨rfl, Or.inl ⟨1, b, rfl, rfl, Or.inr (Or.inl ⟨rfl, h3⟩), by omega, by omega⟩⟩, rfl, rfl⟩
        | exact ⟨Or.inl ⟨rfl, Or.inl ⟨2, b, rfl, rfl, Or.inr (Or.inr (Or.inl ⟨rfl, h3⟩)), by omega, by omega⟩⟩, rfl, rfl⟩
        | exact ⟨Or.inl ⟨rfl, Or.inr hb69⟩, rfl, rfl⟩
        | exact ⟨Or.inr ⟨rfl, zev_n (zev_m hb29) (by decide)⟩, rfl, rfl⟩
        | exact ⟨Or.inr ⟨rfl, zev_n (zev_c (by omega) b2 b4 hc) (by decide)⟩, rfl, rfl⟩
        | exact ⟨Or.inr ⟨rfl, zev_n (zev_l (w := 0) (by omega) b2 b4 hc) (by decide)⟩, rfl, rfl⟩
        | exact ⟨Or.inr ⟨rfl, zev_n (zev_l (w := 1) (by omega) b2 b4 hc) (by decide)⟩, rfl, rfl⟩
        | exact ⟨Or.inr ⟨rfl, zev_n (zev_o hsw0 hsw1 hsw2 hb69) hb69⟩, rfl, rfl⟩
        | fail
    · skip
      try dsimp only [zov, Option.toList, List.cons_append, List.nil_append]
      refine z_zret (pc := 66) dX10_isOf_66 rfl (by first | decide | assumption) ?_
      first
        | exact ⟨Or.inl ⟨rfl, Or.inl ⟨0, b, rfl, rfl, Or.inl ⟨rfl, hc⟩, by omega, by omega⟩⟩, rfl, rfl⟩
        | exact ⟨Or.inl ⟨rfl, Or.inl ⟨1, b, rfl, rfl, Or.inr (Or.inl ⟨rfl, h3⟩), by omega, by omega⟩⟩, rfl, rfl⟩
        | exact ⟨Or.inl ⟨rfl, Or.inl ⟨2, b, rfl, rfl, Or.inr (Or.inr (Or.inl ⟨rfl, h3⟩)), by omega, by omega⟩⟩, rfl, rfl⟩
        | exact ⟨Or.inl ⟨rfl, Or.inr hb69⟩, rfl, rfl⟩
        | exact ⟨Or.inr ⟨rfl, zev_n (zev_m hb29) (by decide)⟩, rfl, rfl⟩
        | exact ⟨Or.inr ⟨rfl, zev_n (zev_c (by omega) b2 b4 hc) (by decide)⟩, rfl, rfl⟩
        | exact ⟨Or.inr ⟨rfl, zev_n (zev_l (w := 0) (by omega) b2 b4 hc) (by decide)⟩, rfl, rfl⟩
        | exact ⟨Or.inr ⟨rfl, zev_n (zev_l (w := 1) (by omega) b2 b4 hc) (by decide)⟩, rfl, rfl⟩
        | exact ⟨Or.inr ⟨rfl, zev_n (zev_o hsw0 hsw1 hsw2 hb69) hb69⟩, rfl, rfl⟩
        | fail
  · skip
    refine z_tableOut (pc := 1) (tgt := 67) dX10_isOf_1 (by have e0 : w.toInt ≠ 0 := fun h => hsw0 (Int32.toInt_inj.mp (h.trans (by decide))); have e1 : w.toInt ≠ 1 := fun h => hsw1 (Int32.toInt_inj.mp (h.trans (by decide))); have e2 : w.toInt ≠ 2 := fun h => hsw2 (Int32.toInt_inj.mp (h.trans (by decide))); omega) (by decide) ?_
    refine z_iload_n (pc := 67) dX10_isOf_67 rfl rfl ?_
    refine z_iconst (pc := 68) (v := nI 3) dX10_isOf_68 (by decide) ?_
    refine z_icmp_ne (pc := 69) (tgt := 76) dX10_isOf_69 (by decide) (fun hb69 => ?_) (fun hb69 => ?_)
    · skip
      refine z_iconst (pc := 76) (v := nI 0) dX10_isOf_76 (by decide) ?_
      refine z_zret (pc := 77) dX10_isOf_77 rfl (by first | decide | assumption) ?_
      first
        | exact ⟨Or.inl ⟨rfl, Or.inl ⟨0, b, rfl, rfl, Or.inl ⟨rfl, hc⟩, by omega, by omega⟩⟩, rfl, rfl⟩
        | exact ⟨Or.inl ⟨rfl, Or.inl ⟨1, b, rfl, rfl, Or.inr (Or.inl ⟨rfl, h3⟩), by omega, by omega⟩⟩, rfl, rfl⟩
        | exact ⟨Or.inl ⟨rfl, Or.inl ⟨2, b, rfl, rfl, Or.inr (Or.inr (Or.inl ⟨rfl, h3⟩)), by omega, by omega⟩⟩, rfl, rfl⟩
        | exact ⟨Or.inl ⟨rfl, Or.inr hb69⟩, rfl, rfl⟩
        | exact ⟨Or.inr ⟨rfl, zev_n (zev_m hb29) (by decide)⟩, rfl, rfl⟩
        | exact ⟨Or.inr ⟨rfl, zev_n (zev_c (by omega) b2 b4 hc) (by decide)⟩, rfl, rfl⟩
        | exact ⟨Or.inr ⟨rfl, zev_n (zev_l (w := 0) (by omega) b2 b4 hc) (by decide)⟩, rfl, rfl⟩
        | exact ⟨Or.inr ⟨rfl, zev_n (zev_l (w := 1) (by omega) b2 b4 hc) (by decide)⟩, rfl, rfl⟩
        | exact ⟨Or.inr ⟨rfl, zev_n (zev_o hsw0 hsw1 hsw2 hb69) hb69⟩, rfl, rfl⟩
        | fail
    · skip
      refine z_iconst (pc := 72) (v := nI 1) dX10_isOf_72 (by decide) ?_
      refine z_goto (pc := 73) (tgt := 77) dX10_isOf_73 (by decide) ?_
      refine z_zret (pc := 77) dX10_isOf_77 rfl (by first | decide | assumption) ?_
      first
        | exact ⟨Or.inl ⟨rfl, Or.inl ⟨0, b, rfl, rfl, Or.inl ⟨rfl, hc⟩, by omega, by omega⟩⟩, rfl, rfl⟩
        | exact ⟨Or.inl ⟨rfl, Or.inl ⟨1, b, rfl, rfl, Or.inr (Or.inl ⟨rfl, h3⟩), by omega, by omega⟩⟩, rfl, rfl⟩
        | exact ⟨Or.inl ⟨rfl, Or.inl ⟨2, b, rfl, rfl, Or.inr (Or.inr (Or.inl ⟨rfl, h3⟩)), by omega, by omega⟩⟩, rfl, rfl⟩
        | exact ⟨Or.inl ⟨rfl, Or.inr hb69⟩, rfl, rfl⟩
        | exact ⟨Or.inr ⟨rfl, zev_n (zev_m hb29) (by decide)⟩, rfl, rfl⟩
        | exact ⟨Or.inr ⟨rfl, zev_n (zev_c (by omega) b2 b4 hc) (by decide)⟩, rfl, rfl⟩
        | exact ⟨Or.inr ⟨rfl, zev_n (zev_l (w := 0) (by omega) b2 b4 hc) (by decide)⟩, rfl, rfl⟩
        | exact ⟨Or.inr ⟨rfl, zev_n (zev_l (w := 1) (by omega) b2 b4 hc) (by decide)⟩, rfl, rfl⟩
        | exact ⟨Or.inr ⟨rfl, zev_n (zev_o hsw0 hsw1 hsw2 hb69) hb69⟩, rfl, rfl⟩
        | fail
set_option maxHeartbeats 2000000 in
set_option maxRecDepth 20000 in
theorem l_X10_event {lay : List zL} {S : zS} {d a b : Nat} {I : zI} {J : zJ} (hM : kM lay) (hV : vM I J S) (hev : zevok S.n a b) (ha3 : a ≤ 3) (hb99 : b ≤ 99) : Z lay MX10_event d 45 [.ref 79, .int (nI a), .int (nI b)] [] I J (fun r I' J' => zPM I J (fevent S (nI a) (nI b)) r I' J') := by
  obtain ⟨mo, m80, m81, m82, m83, m84, m85, m86, m87, m88, m89, m90, m91, m92, m93, m94, m95, m96⟩ := id hM
  have hW : vW I S.n := hV.1.1
  have hb := hV.1.2.1
  have hG := hV.1.2.2
  have hB := hb.1
  have hT := hb.2.1
  obtain ⟨b1, b2, b3, b4, b5, b6, b7, b8⟩ := id hB
  have hcc := hb.2.2.1
  have hl9 : ∀ v, zup I 80 (57 + S.n 5) v 80 5 = nI (S.n 5) := fun v => (zup_n _ _ (by omega)).trans (hW 5 (by omega))
  refine z_aload_n (pc := 45) dX10_event_45 rfl rfl ?_
  refine z_getR (pc := 46) dX10_event_46 f_RX10_11 (by assumption) rfl ?_
  refine z_iconst (pc := 49) (v := nI 5) dX10_event_49 (by decide) ?_
  refine z_ialoadv (pc := 50) dX10_event_50 (by assumption) (by with_reducible rfl) (by omega) (by decide) (by first | assumption | exact hW _ (by omega) | exact hl9 _ | exact zup_s _ _ _ _ | rfl) ?_
  refine z_bipush (pc := 51) (v := nI 8) dX10_event_51 (by decide) ?_
  first | refine z_icmp_neN (pc := 53) (tgt := 59) (by with_reducible rfl) (by with_reducible rfl) dX10_event_53 (by decide) (by omega) (by omega) (fun hb53 => ?_) (fun hb53 => ?_) | refine z_icmp_ne (pc := 53) (tgt := 59) dX10_event_53 (by decide) (fun hb53 => ?_) (fun hb53 => ?_)
  · skip
    refine z_aload_n (pc := 59) dX10_event_59 rfl rfl ?_
    refine z_getR (pc := 60) dX10_event_60 f_RX10_11 (by assumption) rfl ?_
    refine z_bipush (pc := 63) (v := nI 57) dX10_event_63 (by decide) ?_
    refine z_aload_n (pc := 65) dX10_event_65 rfl rfl ?_
    refine z_getR (pc := 66) dX10_event_66 f_RX10_11 (by assumption) rfl ?_
    refine z_iconst (pc := 69) (v := nI 5) dX10_event_69 (by decide) ?_
    refine z_ialoadv (pc := 70) dX10_event_70 (by assumption) (by with_reducible rfl) (by omega) (by decide) (by first | assumption | exact hW _ (by omega) | exact hl9 _ | exact zup_s _ _ _ _ | rfl) ?_
    first | refine z_iaddN (pc := 71) (by with_reducible rfl) (by with_reducible rfl) dX10_event_71 ?_ | refine z_iadd (pc := 71) dX10_event_71 ?_
    refine z_bipush (pc := 72) (v := nI 100) dX10_event_72 (by decide) ?_
    refine z_iload_n (pc := 74) dX10_event_74 rfl rfl ?_
    first | refine z_imulN (pc := 75) (by with_reducible rfl) (by with_reducible rfl) dX10_event_75 ?_ | refine z_imul (pc := 75) dX10_event_75 ?_
    refine z_iload_n (pc := 76) dX10_event_76 rfl rfl ?_
    first | refine z_iaddN (pc := 77) (by with_reducible rfl) (by with_reducible rfl) dX10_event_77 ?_ | refine z_iadd (pc := 77) dX10_event_77 ?_
    refine z_iastore (pc := 78) dX10_event_78 (by assumption) (by with_reducible rfl) (by omega) (by decide) ?_
    refine z_aload_n (pc := 79) dX10_event_79 rfl rfl ?_
    refine z_getR (pc := 80) dX10_event_80 f_RX10_11 (by assumption) rfl ?_
    refine z_iconst (pc := 83) (v := nI 5) dX10_event_83 (by decide) ?_
    refine z_dup2 (pc := 84) dX10_event_84 rfl rfl ?_
    refine z_ialoadv (pc := 85) dX10_event_85 (by assumption) (by with_reducible rfl) (by omega) (by decide) (by first | assumption | exact hW _ (by omega) | exact hl9 _ | exact zup_s _ _ _ _ | rfl) ?_
    refine z_iconst (pc := 86) (v := nI 1) dX10_event_86 (by decide) ?_
    first | refine z_iaddN (pc := 87) (by with_reducible rfl) (by with_reducible rfl) dX10_event_87 ?_ | refine z_iadd (pc := 87) dX10_event_87 ?_
    refine z_iastore (pc := 88) dX10_event_88 (by assumption) (by with_reducible rfl) (by omega) (by decide) ?_
    refine z_aload_n (pc := 89) dX10_event_89 rfl rfl ?_
    refine z_getR (pc := 90) dX10_event_90 f_RX10_11 (by assumption) rfl ?_
    refine z_iconst (pc := 93) (v := nI 5) dX10_event_93 (by decide) ?_
    refine z_ialoadv (pc := 94) dX10_event_94 (by assumption) (by with_reducible rfl) (by omega) (by decide) (by first | assumption | exact hW _ (by omega) | exact hl9 _ | exact zup_s _ _ _ _ | rfl) ?_
    refine z_iret (pc := 95) dX10_event_95 rfl ?_
    first
    | exact zPM_same hV (fevent_8 (nI_ne1 (by omega)) (zev_y hev b2 b4) hb53)
    | (rw [fevent_y (nI_ne1 (by omega)) (zev_y hev b2 b4) hb53]
       exact zPM_now hV (fun x y q _ => by rw [zup_n _ _ (by omega), zup_n _ _ (by omega)]) (zmJ_r _) (vW_up (vW_up hW)) (bN_la5 hb (by omega) (by rw [show (100 * a + b) / 100 = a by omega, show (100 * a + b) % 100 = b by omega]; exact hev)) (zset2_bG hG (by omega) (by omega)) rfl)
    | fail
  · skip
    refine z_bipush (pc := 56) (v := -4) dX10_event_56 (by decide) ?_
    refine z_iret (pc := 58) dX10_event_58 rfl ?_
    first
    | exact zPM_same hV (fevent_8 (nI_ne1 (by omega)) (zev_y hev b2 b4) hb53)
    | (rw [fevent_y (nI_ne1 (by omega)) (zev_y hev b2 b4) hb53]
       exact zPM_now hV (fun x y q _ => by rw [zup_n _ _ (by omega), zup_n _ _ (by omega)]) (zmJ_r _) (vW_up (vW_up hW)) (bN_la5 hb (by omega) (by rw [show (100 * a + b) / 100 = a by omega, show (100 * a + b) % 100 = b by omega]; exact hev)) (zset2_bG hG (by omega) (by omega)) rfl)
    | fail
set_option maxHeartbeats 2000000 in
set_option maxRecDepth 20000 in
theorem c_X10_event {lay : List zL} {I : zI} {J : zJ} {S : zS} (hM : kM lay) (hV : vM I J S) {w v : Int32} : zMet lay MX10_event 3 [.ref 79, .int w, .int v] I J (fun r I' J' => zPM I J (fevent S w v) r I' J') := by
  refine zMet_of (t := MX10_event) (ls := [.ref 79, .int w, .int v]) (by decide +kernel) (Nat.le_of_ble_eq_true rfl) rfl ?_
  obtain ⟨mo, m80, m81, m82, m83, m84, m85, m86, m87, m88, m89, m90, m91, m92, m93, m94, m95, m96⟩ := id hM
  have hW : vW I S.n := hV.1.1
  have hb := hV.1.2.1
  have hG := hV.1.2.2
  have hB := hb.1
  have hT := hb.2.1
  obtain ⟨b1, b2, b3, b4, b5, b6, b7, b8⟩ := id hB
  refine z_iload_n (pc := 0) dX10_event_0 rfl rfl ?_
  refine z_iconst (pc := 1) (v := -1) dX10_event_1 (by decide) ?_
  refine z_icmp_ne (pc := 2) (tgt := 14) dX10_event_2 (by decide) (fun hb2 => ?_) (fun hb2 => ?_)
  · skip
    refine z_aload_n (pc := 14) dX10_event_14 rfl rfl ?_
    refine z_iload_n (pc := 15) dX10_event_15 rfl rfl ?_
    refine z_iload_n (pc := 16) dX10_event_16 rfl rfl ?_
    refine z_callV (pc := 17) (c_X10_isOf hM hW hB) dX10_event_17 l_RX10_287 m_MX10_isOf n_MX10_isOf e_MX10_isOf rfl (by omega) (by assumption) rfl rfl (Nat.le_of_ble_eq_true rfl) ?_
    rintro _ _ _ ⟨⟨rfl, hof⟩ | ⟨rfl, hof⟩, rfl, rfl⟩
    · skip
      try dsimp only [zov, Option.toList, List.cons_append, List.nil_append]
      first | refine z_if_neN (pc := 20) (tgt := 25) (by with_reducible rfl) dX10_event_20 (by decide) (by omega) (fun hb20 => ?_) (fun hb20 => absurd hb20 (by decide)) | refine z_if_ne (pc := 20) (tgt := 25) dX10_event_20 (by decide) (fun hb20 => ?_) (fun hb20 => absurd hb20 (by decide))
      · skip
        refine z_iload_n (pc := 25) dX10_event_25 rfl rfl ?_
        refine z_iconst (pc := 26) (v := nI 3) dX10_event_26 (by decide) ?_
        refine z_icmp_ne (pc := 27) (tgt := 45) dX10_event_27 (by decide) (fun hb27 => ?_) (fun hb27 => ?_)
        · skip
          first
          | exact l_X10_event hM hV (a := 3) (b := b) (Or.inr (Or.inr (Or.inr ⟨rfl, hx1⟩))) (by omega) (by omega)
          | (rcases hof with ⟨a, b, rfl, rfl, hev, h99, ha2⟩ | h3
             · exact l_X10_event hM hV hev (by omega) h99
             · exact absurd h3 hb27)
          | fail
        · skip
          subst hb27
          refine z_iload_n (pc := 30) dX10_event_30 rfl rfl ?_
          first | refine z_i2lN (pc := 31) (by with_reducible rfl) dX10_event_31 (by omega) ?_ | refine z_i2l (pc := 31) dX10_event_31 rfl ?_
          refine z_lconst (pc := 32) (v := lN 0) dX10_event_32 rfl ?_
          refine z_ldc2 (pc := 33) (v := lN 60) dX10_event_33 q_RX10_100 ?_
          refine z_callS (pc := 36) (c_X10_withinI (by omega) (by omega)) dX10_event_36 l_RX10_68 m_MX10_within s_MX10_within rfl (by omega) rfl (Nat.le_of_ble_eq_true rfl) ?_
          rintro _ _ _ ⟨⟨rfl, hx⟩ | ⟨rfl, hx⟩, rfl, rfl⟩
          · obtain ⟨b, rfl, hx0, hx1⟩ := hx
            try dsimp only [zov, Option.toList, List.cons_append, List.nil_append]
            first | refine z_if_neN (pc := 39) (tgt := 45) (by with_reducible rfl) dX10_event_39 (by decide) (by omega) (fun hb39 => ?_) (fun hb39 => absurd hb39 (by decide)) | refine z_if_ne (pc := 39) (tgt := 45) dX10_event_39 (by decide) (fun hb39 => ?_) (fun hb39 => absurd hb39 (by decide))
            · skip
              first
              | exact l_X10_event hM hV (a := 3) (b := b) (Or.inr (Or.inr (Or.inr ⟨rfl, hx1⟩))) (by omega) (by omega)
              | (rcases hof with ⟨a, b, rfl, rfl, hev, h99, ha2⟩ | h3
                 · exact l_X10_event hM hV hev (by omega) h99
                 · exact absurd h3 hb27)
              | fail
          · skip
            try dsimp only [zov, Option.toList, List.cons_append, List.nil_append]
            first | refine z_if_neN (pc := 39) (tgt := 45) (by with_reducible rfl) dX10_event_39 (by decide) (by omega) (fun hb39 => absurd hb39 (by decide)) (fun hb39 => ?_) | refine z_if_ne (pc := 39) (tgt := 45) dX10_event_39 (by decide) (fun hb39 => absurd hb39 (by decide)) (fun hb39 => ?_)
            · skip
              refine z_bipush (pc := 42) (v := -2) dX10_event_42 (by decide) ?_
              refine z_iret (pc := 44) dX10_event_44 rfl ?_
              first
                | (subst hb2; rw [fevent_0]; exact zPM_now hV (fun x y q _ => zup_n _ _ (by omega)) (zmJ_r _) (vW_up hW) (bN_l0 hb (by omega)) (zset1_bG hG (by omega)) rfl)
                | exact zPM_same hV (fevent_l hb2 hof)
                | exact zPM_same hV (fevent_l hb2 (zev_3 (isR_no hx)))
                | fail
    · skip
      try dsimp only [zov, Option.toList, List.cons_append, List.nil_append]
      first | refine z_if_neN (pc := 20) (tgt := 25) (by with_reducible rfl) dX10_event_20 (by decide) (by omega) (fun hb20 => absurd hb20 (by decide)) (fun hb20 => ?_) | refine z_if_ne (pc := 20) (tgt := 25) dX10_event_20 (by decide) (fun hb20 => absurd hb20 (by decide)) (fun hb20 => ?_)
      · skip
        refine z_iconst (pc := 23) (v := -1) dX10_event_23 (by decide) ?_
        refine z_iret (pc := 24) dX10_event_24 rfl ?_
        first
          | (subst hb2; rw [fevent_0]; exact zPM_now hV (fun x y q _ => zup_n _ _ (by omega)) (zmJ_r _) (vW_up hW) (bN_l0 hb (by omega)) (zset1_bG hG (by omega)) rfl)
          | exact zPM_same hV (fevent_l hb2 hof)
          | exact zPM_same hV (fevent_l hb2 (zev_3 (isR_no hx)))
          | fail
  · skip
    refine z_aload_n (pc := 5) dX10_event_5 rfl rfl ?_
    refine z_getR (pc := 6) dX10_event_6 f_RX10_11 (by assumption) rfl ?_
    refine z_iconst (pc := 9) (v := nI 5) dX10_event_9 (by decide) ?_
    refine z_iconst (pc := 10) (v := nI 0) dX10_event_10 (by decide) ?_
    refine z_iastore (pc := 11) dX10_event_11 (by assumption) (by with_reducible rfl) (by omega) (by decide) ?_
    refine z_iconst (pc := 12) (v := nI 0) dX10_event_12 (by decide) ?_
    refine z_iret (pc := 13) dX10_event_13 rfl ?_
    first
      | (subst hb2; rw [fevent_0]; exact zPM_now hV (fun x y q _ => zup_n _ _ (by omega)) (zmJ_r _) (vW_up hW) (bN_l0 hb (by omega)) (zset1_bG hG (by omega)) rfl)
      | exact zPM_same hV (fevent_l hb2 hof)
      | exact zPM_same hV (fevent_l hb2 (zev_3 (isR_no hx)))
      | fail
/-- what happens, as the model has it: all three margins of rows -/
def zhm (n : Nat → Nat) (w v : Nat) : Nat → Nat := fun k => if w = 0 then (if k = 7 + (3 * (v / 10) + v % 10) then 0 else n k) else if w = 3 then (if 25 ≤ k ∧ k < 28 then v else n k) else (if k = 25 + (3 * (w - 1) + v) then min 60 (n k + 1) else n k)
theorem zhm_0 {n : Nat → Nat} {v : Nat} : zhm n 0 v = zset1 n (7 + (3 * (v / 10) + v % 10)) 0 := rfl
theorem zhm_k {n : Nat → Nat} {w v : Nat} (h0 : w ≠ 0) (h3 : w ≠ 3) : zhm n w v = zset1 n (25 + (3 * (w - 1) + v)) (min 60 (n (25 + (3 * (w - 1) + v)) + 1)) := by
  funext k
  unfold zhm zset1
  rw [if_neg h0, if_neg h3]
  by_cases q : k = 25 + (3 * (w - 1) + v)
  · rw [if_pos q, if_pos q, q]
  · rw [if_neg q, if_neg q]
theorem zhm_o {n : Nat → Nat} {w v k : Nat} (hw : zevok n w v) (hr : n 0 ≤ 3) (hc : n 1 ≤ 3) (h : k < 7 ∨ 34 ≤ k) : zhm n w v k = n k := by
  unfold zevok at hw
  unfold zhm
  by_cases h0 : w = 0
  · rw [if_pos h0, if_neg (by omega)]
  rw [if_neg h0]
  by_cases h3 : w = 3
  · rw [if_pos h3, if_neg (by omega)]
  rw [if_neg h3, if_neg (by omega)]
theorem zhm_bS {n : Nat → Nat} {w v : Nat} (h : bS n) (hw : zevok n w v) : bS (zhm n w v) := by
  have hr := h.2.1
  have hc := h.2.2.2.1
  have ho := fun k hk => zhm_o (k := k) hw hr hc hk
  obtain ⟨b1, b2, b3, b4, b5, b6, b7, b8⟩ := h
  refine ⟨by rw [ho 0 (by omega)]; exact b1, by rw [ho 0 (by omega)]; exact b2, by rw [ho 1 (by omega)]; exact b3, by rw [ho 1 (by omega)]; exact b4, by rw [ho 2 (by omega)]; exact b5, fun k hk => ?_, fun k hk => ?_, fun k hk => ?_⟩
  · have := b6 k hk
    unfold zevok at hw
    unfold zhm
    split
    · split <;> omega
    · split
      · rw [if_neg (by omega)]; exact this
      · rw [if_neg (by omega)]; exact this
  · have := b7 k hk
    unfold zevok at hw
    unfold zhm
    split
    · rw [if_neg (by omega)]; exact this
    · split
      · rw [if_neg (by omega)]; exact this
      · rw [if_neg (by omega)]; exact this
  · have := b8 k hk
    unfold zevok at hw
    unfold zhm
    split
    · rw [if_neg (by omega)]; exact this
    · split
      · split <;> omega
      · split <;> omega
/-- alike but for margins of rows that aren't there -/
def zsim (m s : Nat → Nat) : Prop := ∀ k, ¬ (25 + s 0 ≤ k ∧ k < 28) → m k = s k
theorem zsim_step {m s : Nat → Nat} {w v : Nat} (h : zsim m s) (hr : s 0 ≤ 3) (hr1 : 1 ≤ s 0) (hc : s 1 ≤ 3) (hw : zevok s w v) : zsim (zhm m w v) (zhap s w v) := by
  have e0 : zhap s w v 0 = s 0 := by
    unfold zevok at hw
    unfold zhap
    split
    · rw [if_neg (by omega)]
    · split
      · rw [if_neg (by omega)]
      · rw [if_neg (by omega)]
  intro k hk
  rw [e0] at hk
  have hm := h k hk
  unfold zevok at hw
  unfold zhm zhap
  by_cases h0 : w = 0
  · rw [if_pos h0, if_pos h0, hm]
  rw [if_neg h0, if_neg h0]
  by_cases h3 : w = 3
  · rw [if_pos h3, if_pos h3, hm]
    by_cases q : 25 ≤ k ∧ k < 28
    · rw [if_pos q, if_pos (by omega)]
    · rw [if_neg q, if_neg (by omega)]
  · rw [if_neg h3, if_neg h3, hm]
theorem zsim_all {m s : Nat → Nat} (h : zsim m s) (hB : bS s) {w : Nat} (hw : w ≤ 1) : zall m w = zall s w := by
  have h0 := h 0 (by omega)
  have h1 := h 1 (by omega)
  have hr := hB.2.1
  have hc := hB.2.2.2.1
  unfold zall
  rw [h0, h1]
  refine zmsum_cg _ _ (fun i h2 h3 => h _ ?_)
  rcases (show w = 0 ∨ w = 1 by omega) with rfl | rfl
  · have : i < s 0 := by have := h3; unfold zlines at this; simp at this; exact this
    omega
  · omega
theorem zany_cg {P P' : Nat → Bool} : ∀ (m k : Nat), (∀ i, k ≤ i → i < k + m → P i = P' i) → zany P m k = zany P' m k
  | 0, _, _ => rfl
  | m + 1, k, h => by
    unfold zany
    rw [h k (by omega) (by omega), zany_cg m (k + 1) (fun i h1 h2 => h i (by omega) (by omega))]
theorem zsim_forb {m s : Nat → Nat} (h : zsim m s) (hB : bS s) : zforb m = zforb s := by
  have h0 := h 0 (by omega)
  have h1 := h 1 (by omega)
  have hr := hB.2.1
  have hc := hB.2.2.2.1
  unfold zforb
  rw [h0]
  refine zfo_cg _ _ _ (fun g _ _ => ?_)
  unfold zfb
  have e1 : zmo m g = zmo s g := by
    unfold zmo
    rw [h0]
    refine zmsum_cg _ _ (fun i h2 h3 => ?_)
    unfold zif
    dsimp only
    rw [h (25 + i) (by omega)]
  have e2 : zre m g = zre s g := by
    unfold zre
    rw [h1]
    refine zmsum_cg _ _ (fun j h2 h3 => ?_)
    have e3 : zre1 m g j = zre1 s g j := by
      unfold zre1
      rw [h0]
      refine zany_cg _ _ (fun i h4 h5 => ?_)
      rw [h (7 + (3 * i + j)) (by omega)]
    unfold zif
    dsimp only
    rw [e3, h (25 + (3 + j)) (by omega)]
  rw [e1, e2]
set_option maxHeartbeats 2000000 in
set_option maxRecDepth 20000 in
theorem l_X10_happens {lay : List zL} {Q : Value → zI → zJ → Prop} {n : Nat → Nat} {d v : Nat} {I0 : zI} {J : zJ} (hM : kM lay) : ∀ (m k : Nat) (I : zI), k + m = 3 → (∀ j, j < 73 → I 80 j = nI (if 25 ≤ j ∧ j < 25 + k then v else n j)) → (∀ x y, x ≠ 80 → I x y = I0 x y) → (∀ I', vW I' (zhm n 3 v) → (∀ x y, x ≠ 80 → I' x y = I0 x y) → Q .null I' J) → Z lay MX10_happens (d + 1) 53 [.ref 79, .int (nI 3), .int (nI v), .int (nI k)] [] I J Q := by
  intro m
  induction m with
  | zero =>
    intro k I hk h1 hf hq
    obtain rfl : k = 3 := (by omega)
    obtain ⟨mo, m80, m81, m82, m83, m84, m85, m86, m87, m88, m89, m90, m91, m92, m93, m94, m95, m96⟩ := id hM
    refine z_iload_n (pc := 53) dX10_happens_53 rfl rfl ?_
    refine z_iconst (pc := 54) (v := nI 3) dX10_happens_54 (by decide) ?_
    first | refine z_icmp_geN (pc := 55) (tgt := 74) (by with_reducible rfl) (by with_reducible rfl) dX10_happens_55 (by decide) (by omega) (by omega) (fun hb55 => ?_) (fun hb55 => absurd (Nat.le_refl 3) hb55) | refine z_icmp_ge (pc := 55) (tgt := 74) dX10_happens_55 (by decide) (fun hb55 => ?_) (fun hb55 => absurd (Nat.le_refl 3) hb55)
    · skip
      refine z_goto (pc := 74) (tgt := 107) dX10_happens_74 (by decide) ?_
      refine z_vret (pc := 107) dX10_happens_107 rfl ?_
      exact hq I (fun j hj => by rw [h1 j hj]; rfl) hf
  | succ m ih =>
    intro k I hk h1 hf hq
    obtain ⟨mo, m80, m81, m82, m83, m84, m85, m86, m87, m88, m89, m90, m91, m92, m93, m94, m95, m96⟩ := id hM
    refine z_iload_n (pc := 53) dX10_happens_53 rfl rfl ?_
    refine z_iconst (pc := 54) (v := nI 3) dX10_happens_54 (by decide) ?_
    first | refine z_icmp_geN (pc := 55) (tgt := 74) (by with_reducible rfl) (by with_reducible rfl) dX10_happens_55 (by decide) (by omega) (by omega) (fun hb55 => absurd hb55 (by omega)) (fun hb55 => ?_) | refine z_icmp_ge (pc := 55) (tgt := 74) dX10_happens_55 (by decide) (fun hb55 => absurd hb55 (by omega)) (fun hb55 => ?_)
    · skip
      refine z_aload_n (pc := 58) dX10_happens_58 rfl rfl ?_
      refine z_getR (pc := 59) dX10_happens_59 f_RX10_11 (by assumption) rfl ?_
      refine z_bipush (pc := 62) (v := nI 25) dX10_happens_62 (by decide) ?_
      refine z_iload_n (pc := 64) dX10_happens_64 rfl rfl ?_
      first | refine z_iaddN (pc := 65) (by with_reducible rfl) (by with_reducible rfl) dX10_happens_65 ?_ | refine z_iadd (pc := 65) dX10_happens_65 ?_
      refine z_iload_n (pc := 66) dX10_happens_66 rfl rfl ?_
      refine z_iastore (pc := 67) dX10_happens_67 (by assumption) (by with_reducible rfl) (by omega) (by decide) ?_
      first | refine z_iincN (pc := 68) (c := 1) dX10_happens_68 rfl (by with_reducible rfl) (by decide) (by decide) rfl ?_ | refine z_iinc (pc := 68) dX10_happens_68 rfl rfl (by decide) rfl ?_
      try dsimp only [zst1, zst2, zk]
      refine z_goto (pc := 71) (tgt := 53) dX10_happens_71 (by decide) ?_
      refine ih (k + 1) _ (by omega) (fun j hj => ?_) (fun x y h => (zup_n _ _ (by omega)).trans (hf x y h)) hq
      by_cases e : j = 25 + k
      · rw [e, if_pos (by omega)]; exact zup_s _ _ _ _
      · rw [zup_n _ _ (by omega), h1 j hj]
        by_cases q : 25 ≤ j ∧ j < 25 + k
        · rw [if_pos q, if_pos (by omega)]
        · rw [if_neg q, if_neg (by omega)]
set_option maxHeartbeats 2000000 in
set_option maxRecDepth 20000 in
theorem c_X10_happens {lay : List zL} {I : zI} {J : zJ} {n : Nat → Nat} (hM : kM lay) (hW : vW I n) (hB : bS n) {w v : Nat} (hw : zevok n w v) : zMet lay MX10_happens 1 [.ref 79, .int (nI w), .int (nI v)] I J (fun r I' J' => r = .null ∧ vW I' (zhm n w v) ∧ (∀ x y, x ≠ 80 → I' x y = I x y) ∧ J = J') := by
  refine zMet_of (t := MX10_happens) (ls := [.ref 79, .int (nI w), .int (nI v), .null]) (by decide +kernel) (Nat.le_of_ble_eq_true rfl) rfl ?_
  obtain ⟨mo, m80, m81, m82, m83, m84, m85, m86, m87, m88, m89, m90, m91, m92, m93, m94, m95, m96⟩ := id hM
  have hwv := hW
  obtain ⟨b1, b2, b3, b4, b5, b6, b7, b8⟩ := id hB
  rcases hw with ⟨rfl, h8, h9⟩ | ⟨rfl, h8⟩ | ⟨rfl, h8⟩ | ⟨rfl, h8⟩
  · have hh := b8
    refine z_iload_n (pc := 0) dX10_happens_0 rfl rfl ?_
    refine z_lookup (pc := 1) (off := 27) (tgt := 28) dX10_happens_1 (by decide) (by decide) (by decide) ?_
    refine z_aload_n (pc := 28) dX10_happens_28 rfl rfl ?_
    refine z_getR (pc := 29) dX10_happens_29 f_RX10_11 (by assumption) rfl ?_
    refine z_bipush (pc := 32) (v := nI 7) dX10_happens_32 (by decide) ?_
    refine z_iconst (pc := 34) (v := nI 3) dX10_happens_34 (by decide) ?_
    refine z_iload_n (pc := 35) dX10_happens_35 rfl rfl ?_
    refine z_bipush (pc := 36) (v := nI 10) dX10_happens_36 (by decide) ?_
    refine z_idivN (pc := 38) (by with_reducible rfl) (by with_reducible rfl) dX10_happens_38 (by omega) (by omega) (by omega) ?_
    first | refine z_imulN (pc := 39) (by with_reducible rfl) (by with_reducible rfl) dX10_happens_39 ?_ | refine z_imul (pc := 39) dX10_happens_39 ?_
    first | refine z_iaddN (pc := 40) (by with_reducible rfl) (by with_reducible rfl) dX10_happens_40 ?_ | refine z_iadd (pc := 40) dX10_happens_40 ?_
    refine z_iload_n (pc := 41) dX10_happens_41 rfl rfl ?_
    refine z_bipush (pc := 42) (v := nI 10) dX10_happens_42 (by decide) ?_
    refine z_iremN (pc := 44) (by with_reducible rfl) (by with_reducible rfl) dX10_happens_44 (by omega) (by omega) (by omega) ?_
    first | refine z_iaddN (pc := 45) (by with_reducible rfl) (by with_reducible rfl) dX10_happens_45 ?_ | refine z_iadd (pc := 45) dX10_happens_45 ?_
    refine z_iconst (pc := 46) (v := nI 0) dX10_happens_46 (by decide) ?_
    refine z_iastore (pc := 47) dX10_happens_47 (by assumption) (by with_reducible rfl) (by omega) (by decide) ?_
    refine z_goto (pc := 48) (tgt := 107) dX10_happens_48 (by decide) ?_
    refine z_vret (pc := 107) dX10_happens_107 rfl ?_
    rw [zhm_0, ← Nat.add_assoc]
    exact ⟨rfl, vW_up hW, fun x y h => zup_n _ _ (by omega), rfl⟩
  · have hh := b8
    have h99 := b8 (3 * (1 - 1) + v) (by omega)
    rw [← Nat.add_assoc] at h99
    refine z_iload_n (pc := 0) dX10_happens_0 rfl rfl ?_
    refine z_lookup (pc := 1) (off := 76) (tgt := 77) dX10_happens_1 (by decide) (by decide) (by decide) ?_
    refine z_bipush (pc := 77) (v := nI 25) dX10_happens_77 (by decide) ?_
    refine z_iconst (pc := 79) (v := nI 3) dX10_happens_79 (by decide) ?_
    refine z_iload_n (pc := 80) dX10_happens_80 rfl rfl ?_
    refine z_iconst (pc := 81) (v := nI 1) dX10_happens_81 (by decide) ?_
    first | refine z_isubN (pc := 82) (by with_reducible rfl) (by with_reducible rfl) dX10_happens_82 (by omega) ?_ | refine z_isub (pc := 82) dX10_happens_82 ?_
    first | refine z_imulN (pc := 83) (by with_reducible rfl) (by with_reducible rfl) dX10_happens_83 ?_ | refine z_imul (pc := 83) dX10_happens_83 ?_
    first | refine z_iaddN (pc := 84) (by with_reducible rfl) (by with_reducible rfl) dX10_happens_84 ?_ | refine z_iadd (pc := 84) dX10_happens_84 ?_
    refine z_iload_n (pc := 85) dX10_happens_85 rfl rfl ?_
    first | refine z_iaddN (pc := 86) (by with_reducible rfl) (by with_reducible rfl) dX10_happens_86 ?_ | refine z_iadd (pc := 86) dX10_happens_86 ?_
    refine z_istore_n (pc := 87) dX10_happens_87 rfl (by decide) rfl ?_
    try dsimp only [zst1, zst2, zk]
    refine z_aload_n (pc := 88) dX10_happens_88 rfl rfl ?_
    refine z_getR (pc := 89) dX10_happens_89 f_RX10_11 (by assumption) rfl ?_
    refine z_iload_n (pc := 92) dX10_happens_92 rfl rfl ?_
    refine z_bipush (pc := 93) (v := nI 60) dX10_happens_93 (by decide) ?_
    refine z_aload_n (pc := 95) dX10_happens_95 rfl rfl ?_
    refine z_getR (pc := 96) dX10_happens_96 f_RX10_11 (by assumption) rfl ?_
    refine z_iload_n (pc := 99) dX10_happens_99 rfl rfl ?_
    refine z_ialoadv (pc := 100) dX10_happens_100 (by assumption) (by with_reducible rfl) (by omega) (by decide) (by first | assumption | exact hW _ (by omega) | rfl) ?_
    refine z_iconst (pc := 101) (v := nI 1) dX10_happens_101 (by decide) ?_
    first | refine z_iaddN (pc := 102) (by with_reducible rfl) (by with_reducible rfl) dX10_happens_102 ?_ | refine z_iadd (pc := 102) dX10_happens_102 ?_
    refine z_mmin (pc := 103) dX10_happens_103 l_RX10_290 (by with_reducible rfl) (by with_reducible rfl) (by omega) (by omega) (by omega) (Nat.le_of_ble_eq_true rfl) ?_
    refine z_iastore (pc := 106) dX10_happens_106 (by assumption) (by with_reducible rfl) (by omega) (by decide) ?_
    refine z_vret (pc := 107) dX10_happens_107 rfl ?_
    rw [zhm_k (by omega) (by omega), ← Nat.add_assoc]
    exact ⟨rfl, vW_up hW, fun x y h => zup_n _ _ (by omega), rfl⟩
  · have hh := b8
    have h99 := b8 (3 * (2 - 1) + v) (by omega)
    rw [← Nat.add_assoc] at h99
    refine z_iload_n (pc := 0) dX10_happens_0 rfl rfl ?_
    refine z_lookup (pc := 1) (off := 76) (tgt := 77) dX10_happens_1 (by decide) (by decide) (by decide) ?_
    refine z_bipush (pc := 77) (v := nI 25) dX10_happens_77 (by decide) ?_
    refine z_iconst (pc := 79) (v := nI 3) dX10_happens_79 (by decide) ?_
    refine z_iload_n (pc := 80) dX10_happens_80 rfl rfl ?_
    refine z_iconst (pc := 81) (v := nI 1) dX10_happens_81 (by decide) ?_
    first | refine z_isubN (pc := 82) (by with_reducible rfl) (by with_reducible rfl) dX10_happens_82 (by omega) ?_ | refine z_isub (pc := 82) dX10_happens_82 ?_
    first | refine z_imulN (pc := 83) (by with_reducible rfl) (by with_reducible rfl) dX10_happens_83 ?_ | refine z_imul (pc := 83) dX10_happens_83 ?_
    first | refine z_iaddN (pc := 84) (by with_reducible rfl) (by with_reducible rfl) dX10_happens_84 ?_ | refine z_iadd (pc := 84) dX10_happens_84 ?_
    refine z_iload_n (pc := 85) dX10_happens_85 rfl rfl ?_
    first | refine z_iaddN (pc := 86) (by with_reducible rfl) (by with_reducible rfl) dX10_happens_86 ?_ | refine z_iadd (pc := 86) dX10_happens_86 ?_
    refine z_istore_n (pc := 87) dX10_happens_87 rfl (by decide) rfl ?_
    try dsimp only [zst1, zst2, zk]
    refine z_aload_n (pc := 88) dX10_happens_88 rfl rfl ?_
    refine z_getR (pc := 89) dX10_happens_89 f_RX10_11 (by assumption) rfl ?_
    refine z_iload_n (pc := 92) dX10_happens_92 rfl rfl ?_
    refine z_bipush (pc := 93) (v := nI 60) dX10_happens_93 (by decide) ?_
    refine z_aload_n (pc := 95) dX10_happens_95 rfl rfl ?_
    refine z_getR (pc := 96) dX10_happens_96 f_RX10_11 (by assumption) rfl ?_
    refine z_iload_n (pc := 99) dX10_happens_99 rfl rfl ?_
    refine z_ialoadv (pc := 100) dX10_happens_100 (by assumption) (by with_reducible rfl) (by omega) (by decide) (by first | assumption | exact hW _ (by omega) | rfl) ?_
    refine z_iconst (pc := 101) (v := nI 1) dX10_happens_101 (by decide) ?_
    first | refine z_iaddN (pc := 102) (by with_reducible rfl) (by with_reducible rfl) dX10_happens_102 ?_ | refine z_iadd (pc := 102) dX10_happens_102 ?_
    refine z_mmin (pc := 103) dX10_happens_103 l_RX10_290 (by with_reducible rfl) (by with_reducible rfl) (by omega) (by omega) (by omega) (Nat.le_of_ble_eq_true rfl) ?_
    refine z_iastore (pc := 106) dX10_happens_106 (by assumption) (by with_reducible rfl) (by omega) (by decide) ?_
    refine z_vret (pc := 107) dX10_happens_107 rfl ?_
    rw [zhm_k (by omega) (by omega), ← Nat.add_assoc]
    exact ⟨rfl, vW_up hW, fun x y h => zup_n _ _ (by omega), rfl⟩
  · have hh := b8
    refine z_iload_n (pc := 0) dX10_happens_0 rfl rfl ?_
    refine z_lookup (pc := 1) (off := 50) (tgt := 51) dX10_happens_1 (by decide) (by decide) (by decide) ?_
    refine z_iconst (pc := 51) (v := nI 0) dX10_happens_51 (by decide) ?_
    refine z_istore_n (pc := 52) dX10_happens_52 rfl (by decide) rfl ?_
    try dsimp only [zst1, zst2, zk]
    exact l_X10_happens (d := 0) (n := n) (I0 := I) hM 3 0 I rfl (fun j hj => by rw [if_neg (by omega)]; exact hW j hj) (fun _ _ _ => rfl) (fun I' h1 h2 => ⟨rfl, h1, h2, rfl⟩)
set_option maxHeartbeats 2000000 in
set_option maxRecDepth 20000 in
theorem l_X10_after {lay : List zL} {Q : Value → zI → zJ → Prop} {n : Nat → Nat} {d : Nat} {w : Int32} {I0 : zI} {J : zJ} (hM : kM lay) (hb0 : bN n) : ∀ (f k : Nat) (m s : Nat → Nat) (I : zI), k + f = n 5 → vW I m → bS m → (∀ j, (j < 7 ∨ 34 ≤ j) → m j = n j) → zsim m s → bS s → s 0 = n 0 → s 1 = n 1 → (∀ x y, x ≠ 80 → I x y = I0 x y) → (∀ m' I', vW I' m' → bS m' → zsim m' (zaf n f k s) → bS (zaf n f k s) → (∀ x y, x ≠ 80 → I' x y = I0 x y) → Z lay MX10_after (d + 4) 66 [.ref 79, .int w, .int (nI (n 5))] [] I' J Q) → Z lay MX10_after (d + 4) 22 [.ref 79, .int w, .int (nI k)] [] I J Q := by
  have hcc := hb0.2.2.1
  have b2 := hb0.1.2.1
  have b1 := hb0.1.1
  have b4 := hb0.1.2.2.2.1
  intro f
  induction f with
  | zero =>
    intro k m s I hk hW hBm ho hs hBs hs0 hs1 hf K
    obtain rfl : k = n 5 := (by omega)
    have e5 := ho 5 (by omega)
    obtain ⟨mo, m80, m81, m82, m83, m84, m85, m86, m87, m88, m89, m90, m91, m92, m93, m94, m95, m96⟩ := id hM
    refine z_iload_n (pc := 22) dX10_after_22 rfl rfl ?_
    refine z_aload_n (pc := 23) dX10_after_23 rfl rfl ?_
    refine z_getR (pc := 24) dX10_after_24 f_RX10_11 (by assumption) rfl ?_
    refine z_iconst (pc := 27) (v := nI 5) dX10_after_27 (by decide) ?_
    refine z_ialoadv (pc := 28) dX10_after_28 (by assumption) (by with_reducible rfl) (by omega) (by decide) (by first | assumption | exact hW _ (by omega) | rfl) ?_
    first | refine z_icmp_geN (pc := 29) (tgt := 66) (by with_reducible rfl) (by with_reducible rfl) dX10_after_29 (by decide) (by omega) (by omega) (fun hb29 => ?_) (fun hb29 => absurd hb29 (by omega)) | refine z_icmp_ge (pc := 29) (tgt := 66) dX10_after_29 (by decide) (fun hb29 => ?_) (fun hb29 => absurd hb29 (by omega))
    · skip
      exact K m I hW hBm hs hBs hf
  | succ f ih =>
    intro k m s I hk hW hBm ho hs hBs hs0 hs1 hf K
    have e5 := ho 5 (by omega)
    have e57 := ho (57 + k) (by omega)
    have hev := hb0.2.2.2.2.1 k (by omega)
    rw [← e57] at hev
    have hevs := zevok_n (n' := s) hs0 hs1 hev
    have hevm := zevok_n (n' := m) (ho 0 (by omega)) (ho 1 (by omega)) hev
    have hv4 : m (57 + k) < 400 := (by have hz := hev; unfold zevok at hz; omega)
    have hst := zhap_bS hBs hevs
    obtain ⟨mo, m80, m81, m82, m83, m84, m85, m86, m87, m88, m89, m90, m91, m92, m93, m94, m95, m96⟩ := id hM
    refine z_iload_n (pc := 22) dX10_after_22 rfl rfl ?_
    refine z_aload_n (pc := 23) dX10_after_23 rfl rfl ?_
    refine z_getR (pc := 24) dX10_after_24 f_RX10_11 (by assumption) rfl ?_
    refine z_iconst (pc := 27) (v := nI 5) dX10_after_27 (by decide) ?_
    refine z_ialoadv (pc := 28) dX10_after_28 (by assumption) (by with_reducible rfl) (by omega) (by decide) (by first | assumption | exact hW _ (by omega) | rfl) ?_
    first | refine z_icmp_geN (pc := 29) (tgt := 66) (by with_reducible rfl) (by with_reducible rfl) dX10_after_29 (by decide) (by omega) (by omega) (fun hb29 => absurd hb29 (by omega)) (fun hb29 => ?_) | refine z_icmp_ge (pc := 29) (tgt := 66) dX10_after_29 (by decide) (fun hb29 => absurd hb29 (by omega)) (fun hb29 => ?_)
    · skip
      refine z_aload_n (pc := 32) dX10_after_32 rfl rfl ?_
      refine z_aload_n (pc := 33) dX10_after_33 rfl rfl ?_
      refine z_getR (pc := 34) dX10_after_34 f_RX10_11 (by assumption) rfl ?_
      refine z_bipush (pc := 37) (v := nI 57) dX10_after_37 (by decide) ?_
      refine z_iload_n (pc := 39) dX10_after_39 rfl rfl ?_
      first | refine z_iaddN (pc := 40) (by with_reducible rfl) (by with_reducible rfl) dX10_after_40 ?_ | refine z_iadd (pc := 40) dX10_after_40 ?_
      refine z_ialoadv (pc := 41) dX10_after_41 (by assumption) (by with_reducible rfl) (by omega) (by decide) (by first | assumption | exact hW _ (by omega) | rfl) ?_
      refine z_bipush (pc := 42) (v := nI 100) dX10_after_42 (by decide) ?_
      refine z_idivN (pc := 44) (by with_reducible rfl) (by with_reducible rfl) dX10_after_44 (by omega) (by omega) (by omega) ?_
      refine z_aload_n (pc := 45) dX10_after_45 rfl rfl ?_
      refine z_getR (pc := 46) dX10_after_46 f_RX10_11 (by assumption) rfl ?_
      refine z_bipush (pc := 49) (v := nI 57) dX10_after_49 (by decide) ?_
      refine z_iload_n (pc := 51) dX10_after_51 rfl rfl ?_
      first | refine z_iaddN (pc := 52) (by with_reducible rfl) (by with_reducible rfl) dX10_after_52 ?_ | refine z_iadd (pc := 52) dX10_after_52 ?_
      refine z_ialoadv (pc := 53) dX10_after_53 (by assumption) (by with_reducible rfl) (by omega) (by decide) (by first | assumption | exact hW _ (by omega) | rfl) ?_
      refine z_bipush (pc := 54) (v := nI 100) dX10_after_54 (by decide) ?_
      refine z_iremN (pc := 56) (by with_reducible rfl) (by with_reducible rfl) dX10_after_56 (by omega) (by omega) (by omega) ?_
      refine z_callV (pc := 57) (c_X10_happens hM hW hBm hevm) dX10_after_57 l_RX10_295 m_MX10_happens n_MX10_happens e_MX10_happens rfl (by omega) (by assumption) rfl rfl (Nat.le_of_ble_eq_true rfl) ?_
      rintro _ _ _ (⟨rfl, hW1, hf1, rfl⟩)
      try dsimp only [zov, Option.toList, List.cons_append, List.nil_append]
      first | refine z_iincN (pc := 60) (c := 1) dX10_after_60 rfl (by with_reducible rfl) (by decide) (by decide) rfl ?_ | refine z_iinc (pc := 60) dX10_after_60 rfl rfl (by decide) rfl ?_
      try dsimp only [zst1, zst2, zk]
      refine z_goto (pc := 63) (tgt := 22) dX10_after_63 (by decide) ?_
      exact ih (k + 1) (zhm m (m (57 + k) / 100) (m (57 + k) % 100)) (zhap s (m (57 + k) / 100) (m (57 + k) % 100)) _ (by omega) hW1 (zhm_bS hBm hevm) (fun j hj => (zhm_o hevm hBm.2.1 hBm.2.2.2.1 hj).trans (ho j hj)) (zsim_step hs (by omega) (by omega) (by omega) hevs) hst.1 (hst.2.1.trans hs0) (hst.2.2.trans hs1) (fun x y h => (hf1 x y h).trans (hf x y h)) (by rw [e57]; exact K)
theorem zsim_r (n : Nat → Nat) : zsim n n := fun _ _ => rfl
theorem nI_l8 {a : Nat} (h : a < 8) : (nI a).toInt64 = lN a := nI_l (by omega)
set_option maxHeartbeats 2000000 in
set_option maxRecDepth 20000 in
theorem c_X10_after {lay : List zL} {I : zI} {J : zJ} {S : zS} (hM : kM lay) (hV : vM I J S) {w : Int32} : zMet lay MX10_after 5 [.ref 79, .int w] I J (fun r I' J' => zPM I J (fafter S w) r I' J') := by
  refine zMet_of (t := MX10_after) (ls := [.ref 79, .int w, .null]) (by decide +kernel) (Nat.le_of_ble_eq_true rfl) rfl ?_
  obtain ⟨mo, m80, m81, m82, m83, m84, m85, m86, m87, m88, m89, m90, m91, m92, m93, m94, m95, m96⟩ := id hM
  have hW : vW I S.n := hV.1.1
  have hb := hV.1.2.1
  have hG := hV.1.2.2
  have hB := hb.1
  have hT := hb.2.1
  obtain ⟨b1, b2, b3, b4, b5, b6, b7, b8⟩ := id hB
  refine z_iload_n (pc := 0) dX10_after_0 rfl rfl ?_
  first | refine z_i2lN (pc := 1) (by with_reducible rfl) dX10_after_1 (by omega) ?_ | refine z_i2l (pc := 1) dX10_after_1 rfl ?_
  refine z_lconst (pc := 2) (v := lN 0) dX10_after_2 rfl ?_
  refine z_ldc2 (pc := 3) (v := lN 2) dX10_after_3 q_RX10_76 ?_
  refine z_callS (pc := 6) (c_X10_withinI (by omega) (by omega)) dX10_after_6 l_RX10_68 m_MX10_within s_MX10_within rfl (by omega) rfl (Nat.le_of_ble_eq_true rfl) ?_
  rintro _ _ _ ⟨⟨rfl, hx⟩ | ⟨rfl, hx⟩, rfl, rfl⟩
  · obtain ⟨x, rfl, hx0, hx1⟩ := hx
    try dsimp only [zov, Option.toList, List.cons_append, List.nil_append]
    first | refine z_if_neN (pc := 9) (tgt := 16) (by with_reducible rfl) dX10_after_9 (by decide) (by omega) (fun hb9 => ?_) (fun hb9 => absurd hb9 (by decide)) | refine z_if_ne (pc := 9) (tgt := 16) dX10_after_9 (by decide) (fun hb9 => ?_) (fun hb9 => absurd hb9 (by decide))
    · skip
      refine z_aload_n (pc := 16) dX10_after_16 rfl rfl ?_
      refine z_callV (pc := 17) (c_X10_keeps hM) dX10_after_17 l_RX10_273 m_MX10_keeps n_MX10_keeps e_MX10_keeps rfl (by omega) (by assumption) rfl rfl (Nat.le_of_ble_eq_true rfl) ?_
      rintro _ _ _ (⟨rfl, rfl, rfl⟩)
      try dsimp only [zov, Option.toList, List.cons_append, List.nil_append]
      refine z_iconst (pc := 20) (v := nI 0) dX10_after_20 (by decide) ?_
      refine z_istore_n (pc := 21) dX10_after_21 rfl (by decide) rfl ?_
      try dsimp only [zst1, zst2, zk]
      refine l_X10_after (d := 1) (n := S.n) (I0 := zcp I 80 0 82 0 73) hM hb (S.n 5) 0 S.n S.n _ (Nat.zero_add _) (fun y hy => (by rw [zcp_o (by omega)]; exact hW y hy)) hB (fun _ _ => rfl) (zsim_r _) hB rfl rfl (fun _ _ _ => rfl) (fun m I1 hWm hBm hsm hBs q2 => ?_)
      have h82 : ∀ y, y < 73 → I1 82 y = nI (S.n y) := (fun y hy => (q2 82 y (by omega)).trans (vW_kp hW y hy))
      have hfin : vW (zcp I1 82 0 80 0 73) S.n := vW_lay (I0 := I) h82
      have hfr : ∀ x y, x ≠ 80 → (x ≠ 82 ∧ ¬ (84 ≤ x ∧ x ≤ 92) ∧ (x = 79 → y ≠ 16 ∧ y ≠ 17)) → zcp I1 82 0 80 0 73 x y = I x y := (fun x y h1 h2 => by rw [zcp_o h1, q2 x y h1, zcp_o (by omega)])
      have za0 := zsim_all hsm hBs (w := 0) (by omega)
      have za1 := zsim_all hsm hBs (w := 1) (by omega)
      have zf0 := zsim_forb hsm hBs
      have zlt := zforb_lt hBm
      refine z_iload_n (pc := 66) dX10_after_66 rfl rfl ?_
      first | refine z_if_neN (pc := 67) (tgt := 77) (by with_reducible rfl) dX10_after_67 (by decide) (by omega) (fun hb67 => ?_) (fun hb67 => ?_) | refine z_if_ne (pc := 67) (tgt := 77) dX10_after_67 (by decide) (fun hb67 => ?_) (fun hb67 => ?_)
      · skip
        refine z_iload_n (pc := 77) dX10_after_77 rfl rfl ?_
        refine z_iconst (pc := 78) (v := nI 1) dX10_after_78 (by decide) ?_
        first | refine z_icmp_neN (pc := 79) (tgt := 89) (by with_reducible rfl) (by with_reducible rfl) dX10_after_79 (by decide) (by omega) (by omega) (fun hb79 => ?_) (fun hb79 => ?_) | refine z_icmp_ne (pc := 79) (tgt := 89) dX10_after_79 (by decide) (fun hb79 => ?_) (fun hb79 => ?_)
        · skip
          refine z_aload_n (pc := 89) dX10_after_89 rfl rfl ?_
          refine z_callV (pc := 90) (c_X10_surplus hM hWm hBm) dX10_after_90 l_RX10_211 m_MX10_surplus n_MX10_surplus e_MX10_surplus rfl (by omega) (by assumption) rfl rfl (Nat.le_of_ble_eq_true rfl) ?_
          rintro _ _ _ (⟨rfl, rfl, rfl⟩)
          try dsimp only [zov, Option.toList, List.cons_append, List.nil_append]
          refine z_istore_n (pc := 93) dX10_after_93 rfl (by decide) rfl ?_
          try dsimp only [zst1, zst2, zk]
          refine z_aload_n (pc := 94) dX10_after_94 rfl rfl ?_
          refine z_callV (pc := 95) (c_X10_laysBack hM) dX10_after_95 l_RX10_282 m_MX10_laysBack n_MX10_laysBack e_MX10_laysBack rfl (by omega) (by assumption) rfl rfl (Nat.le_of_ble_eq_true rfl) ?_
          rintro _ _ _ (⟨rfl, rfl, rfl⟩)
          try dsimp only [zov, Option.toList, List.cons_append, List.nil_append]
          refine z_iload_n (pc := 98) dX10_after_98 rfl rfl ?_
          first | refine z_i2lN (pc := 99) (by with_reducible rfl) dX10_after_99 (by omega) ?_ | refine z_i2l (pc := 99) dX10_after_99 rfl ?_
          refine z_lret (pc := 100) dX10_after_100 rfl ?_
          first
          | (rw [show x = 0 by omega]; rw [za0, za1, zf0] at hp
             first
             | exact zPM_now (n := S.n) hV hfr (zmJ_r _) hfin hb hG (fafter_0y hp)
             | exact zPM_now (n := S.n) hV hfr (zmJ_r _) hfin hb hG (fafter_0n hp))
          | (rw [show x = 1 by omega, zf0]; exact zPM_now (n := S.n) hV hfr (zmJ_r _) hfin hb hG fafter_1)
          | (rw [show x = 2 by omega, za0, za1]; exact zPM_now (n := S.n) hV hfr (zmJ_r _) hfin hb hG fafter_2)
          | fail
        · skip
          refine z_aload_n (pc := 82) dX10_after_82 rfl rfl ?_
          refine z_callV (pc := 83) (c_X10_forbids hM hWm hBm) dX10_after_83 l_RX10_214 m_MX10_forbids n_MX10_forbids e_MX10_forbids rfl (by omega) (by assumption) rfl rfl (Nat.le_of_ble_eq_true rfl) ?_
          rintro _ _ _ (⟨rfl, rfl, rfl⟩)
          try dsimp only [zov, Option.toList, List.cons_append, List.nil_append]
          refine z_goto (pc := 86) (tgt := 93) dX10_after_86 (by decide) ?_
          refine z_istore_n (pc := 93) dX10_after_93 rfl (by decide) rfl ?_
          try dsimp only [zst1, zst2, zk]
          refine z_aload_n (pc := 94) dX10_after_94 rfl rfl ?_
          refine z_callV (pc := 95) (c_X10_laysBack hM) dX10_after_95 l_RX10_282 m_MX10_laysBack n_MX10_laysBack e_MX10_laysBack rfl (by omega) (by assumption) rfl rfl (Nat.le_of_ble_eq_true rfl) ?_
          rintro _ _ _ (⟨rfl, rfl, rfl⟩)
          try dsimp only [zov, Option.toList, List.cons_append, List.nil_append]
          refine z_iload_n (pc := 98) dX10_after_98 rfl rfl ?_
          first | refine z_i2lN (pc := 99) (by with_reducible rfl) dX10_after_99 (by omega) ?_ | refine z_i2l (pc := 99) dX10_after_99 rfl ?_
          refine z_lret (pc := 100) dX10_after_100 rfl ?_
          first
          | (rw [show x = 0 by omega]; rw [za0, za1, zf0] at hp
             first
             | exact zPM_now (n := S.n) hV hfr (zmJ_r _) hfin hb hG (fafter_0y hp)
             | exact zPM_now (n := S.n) hV hfr (zmJ_r _) hfin hb hG (fafter_0n hp))
          | (rw [show x = 1 by omega, zf0]; exact zPM_now (n := S.n) hV hfr (zmJ_r _) hfin hb hG fafter_1)
          | (rw [show x = 2 by omega, za0, za1]; exact zPM_now (n := S.n) hV hfr (zmJ_r _) hfin hb hG fafter_2)
          | fail
      · skip
        refine z_aload_n (pc := 70) dX10_after_70 rfl rfl ?_
        refine z_callV (pc := 71) (c_X10_possible hM hWm hBm) dX10_after_71 l_RX10_223 m_MX10_possible n_MX10_possible e_MX10_possible rfl (by omega) (by assumption) rfl rfl (Nat.le_of_ble_eq_true rfl) ?_
        rintro _ _ _ ⟨⟨rfl, hp⟩ | ⟨rfl, hp⟩, rfl, rfl⟩
        · skip
          try dsimp only [zov, Option.toList, List.cons_append, List.nil_append]
          refine z_goto (pc := 74) (tgt := 93) dX10_after_74 (by decide) ?_
          refine z_istore_n (pc := 93) dX10_after_93 rfl (by decide) rfl ?_
          try dsimp only [zst1, zst2, zk]
          refine z_aload_n (pc := 94) dX10_after_94 rfl rfl ?_
          refine z_callV (pc := 95) (c_X10_laysBack hM) dX10_after_95 l_RX10_282 m_MX10_laysBack n_MX10_laysBack e_MX10_laysBack rfl (by omega) (by assumption) rfl rfl (Nat.le_of_ble_eq_true rfl) ?_
          rintro _ _ _ (⟨rfl, rfl, rfl⟩)
          try dsimp only [zov, Option.toList, List.cons_append, List.nil_append]
          refine z_iload_n (pc := 98) dX10_after_98 rfl rfl ?_
          first | refine z_i2lN (pc := 99) (by with_reducible rfl) dX10_after_99 (by omega) ?_ | refine z_i2l (pc := 99) dX10_after_99 rfl ?_
          refine z_lret (pc := 100) dX10_after_100 rfl ?_
          first
          | (rw [show x = 0 by omega]; rw [za0, za1, zf0] at hp
             first
             | exact zPM_now (n := S.n) hV hfr (zmJ_r _) hfin hb hG (fafter_0y hp)
             | exact zPM_now (n := S.n) hV hfr (zmJ_r _) hfin hb hG (fafter_0n hp))
          | (rw [show x = 1 by omega, zf0]; exact zPM_now (n := S.n) hV hfr (zmJ_r _) hfin hb hG fafter_1)
          | (rw [show x = 2 by omega, za0, za1]; exact zPM_now (n := S.n) hV hfr (zmJ_r _) hfin hb hG fafter_2)
          | fail
        · skip
          try dsimp only [zov, Option.toList, List.cons_append, List.nil_append]
          refine z_goto (pc := 74) (tgt := 93) dX10_after_74 (by decide) ?_
          refine z_istore_n (pc := 93) dX10_after_93 rfl (by decide) rfl ?_
          try dsimp only [zst1, zst2, zk]
          refine z_aload_n (pc := 94) dX10_after_94 rfl rfl ?_
          refine z_callV (pc := 95) (c_X10_laysBack hM) dX10_after_95 l_RX10_282 m_MX10_laysBack n_MX10_laysBack e_MX10_laysBack rfl (by omega) (by assumption) rfl rfl (Nat.le_of_ble_eq_true rfl) ?_
          rintro _ _ _ (⟨rfl, rfl, rfl⟩)
          try dsimp only [zov, Option.toList, List.cons_append, List.nil_append]
          refine z_iload_n (pc := 98) dX10_after_98 rfl rfl ?_
          first | refine z_i2lN (pc := 99) (by with_reducible rfl) dX10_after_99 (by omega) ?_ | refine z_i2l (pc := 99) dX10_after_99 rfl ?_
          refine z_lret (pc := 100) dX10_after_100 rfl ?_
          first
          | (rw [show x = 0 by omega]; rw [za0, za1, zf0] at hp
             first
             | exact zPM_now (n := S.n) hV hfr (zmJ_r _) hfin hb hG (fafter_0y hp)
             | exact zPM_now (n := S.n) hV hfr (zmJ_r _) hfin hb hG (fafter_0n hp))
          | (rw [show x = 1 by omega, zf0]; exact zPM_now (n := S.n) hV hfr (zmJ_r _) hfin hb hG fafter_1)
          | (rw [show x = 2 by omega, za0, za1]; exact zPM_now (n := S.n) hV hfr (zmJ_r _) hfin hb hG fafter_2)
          | fail
  · skip
    try dsimp only [zov, Option.toList, List.cons_append, List.nil_append]
    first | refine z_if_neN (pc := 9) (tgt := 16) (by with_reducible rfl) dX10_after_9 (by decide) (by omega) (fun hb9 => absurd hb9 (by decide)) (fun hb9 => ?_) | refine z_if_ne (pc := 9) (tgt := 16) dX10_after_9 (by decide) (fun hb9 => absurd hb9 (by decide)) (fun hb9 => ?_)
    · skip
      refine z_ldc2 (pc := 12) (v := -9223372036854775808) dX10_after_12 q_RX10_190 ?_
      refine z_lret (pc := 15) dX10_after_15 rfl ?_
      exact zPM_same hV (fafter_3 (fun e => hx ⟨0, e, by omega, by omega⟩) (fun e => hx ⟨1, e, by omega, by omega⟩) (fun e => hx ⟨2, e, by omega, by omega⟩))
set_option maxHeartbeats 2000000 in
set_option maxRecDepth 20000 in
theorem c_X10_image {lay : List zL} {I : zI} {J : zJ} {S : zS} (hM : kM lay) (hV : vM I J S) : zMet lay MX10_image 1 [.ref 79] I J (fun r I' J' => zPM I J (fimage S) r I' J') := by
  refine zMet_of (t := MX10_image) (ls := [.ref 79]) (by decide +kernel) (Nat.le_of_ble_eq_true rfl) rfl ?_
  obtain ⟨mo, m80, m81, m82, m83, m84, m85, m86, m87, m88, m89, m90, m91, m92, m93, m94, m95, m96⟩ := id hM
  have hW : vW I S.n := hV.1.1
  have hb := hV.1.2.1
  have hG := hV.1.2.2
  have hB := hb.1
  have hT := hb.2.1
  obtain ⟨b1, b2, b3, b4, b5, b6, b7, b8⟩ := id hB
  have hWz : ∀ v, vW (zup (zcp I 80 0 81 0 73) 79 3 v) S.n := fun v y hy => by rw [zup_o (by omega), zcp_o (by omega)]; exact hW y hy
  refine z_aload_n (pc := 0) dX10_image_0 rfl rfl ?_
  refine z_getR (pc := 1) dX10_image_1 f_RX10_11 (by assumption) rfl ?_
  refine z_iconst (pc := 4) (v := nI 0) dX10_image_4 (by decide) ?_
  refine z_aload_n (pc := 5) dX10_image_5 rfl rfl ?_
  refine z_getR (pc := 6) dX10_image_6 f_RX10_15 (by assumption) rfl ?_
  refine z_iconst (pc := 9) (v := nI 0) dX10_image_9 (by decide) ?_
  refine z_bipush (pc := 10) (v := nI 73) dX10_image_10 (by decide) ?_
  first | refine z_copyI (pc := 12) dX10_image_12 lc_RX10_177 (by assumption) (by assumption) rfl rfl rfl (by omega) (by omega) (by decide) (by decide) (by omega) (Nat.le_of_ble_eq_true rfl) ?_ | refine z_copyJ (pc := 12) dX10_image_12 lc_RX10_177 (by assumption) (by assumption) rfl rfl rfl (by omega) (by omega) (by decide) (by decide) (by omega) (Nat.le_of_ble_eq_true rfl) ?_
  refine z_aload_n (pc := 15) dX10_image_15 rfl rfl ?_
  refine z_iconst (pc := 16) (v := nI 1) dX10_image_16 (by decide) ?_
  refine z_putZ (pc := 17) dX10_image_17 f_RX10_299 (by assumption) rfl (by first | assumption | decide | exact zb01 (by assumption)) ?_
  refine z_aload_n (pc := 20) dX10_image_20 rfl rfl ?_
  refine z_callV (pc := 21) (c_X10_cells hM (hWz _) hB) dX10_image_21 l_RX10_303 m_MX10_cells n_MX10_cells e_MX10_cells rfl (by omega) (by assumption) rfl rfl (Nat.le_of_ble_eq_true rfl) ?_
  rintro _ _ _ (⟨rfl, rfl, rfl⟩)
  try dsimp only [zov, Option.toList, List.cons_append, List.nil_append]
  refine z_iret (pc := 24) dX10_image_24 rfl ?_
  obtain ⟨q1, ⟨q4, q5, q6⟩, q7, q8⟩ := hV
  have hfr : ∀ x y, x ≠ 81 → (x = 79 → y ≠ 3) → zup (zcp I 80 0 81 0 73) 79 3 (nI 1) x y = I x y := (fun x y h1 h2 => by rw [zup_n _ _ (by omega), zcp_o h1])
  refine ⟨rfl, ⟨⟨hWz _, hb, hG⟩, ⟨zup_s _ _ _ _, Nat.le_refl 1, fun _ => ⟨fun k hk => ?_, hb, hG⟩⟩, vMT_to q7 (hfr 79 5 (by omega) (by omega)) (fun y => hfr 83 y (by omega) (by omega)), vMQ_to q8 (fun y => hfr 93 y (by omega) (by omega)) (fun y => hfr 94 y (by omega) (by omega)) (fun _ => rfl)⟩, fun x hx => funext fun y => hfr x y (by omega) (by omega), fun _ _ => rfl⟩
  rw [zup_o (by omega), zcp_b]
  dsimp only
  rw [if_pos (by omega), show 0 + (k - 0) = k by omega]
  exact hW k hk
set_option maxHeartbeats 2000000 in
set_option maxRecDepth 20000 in
theorem c_X10_undo {lay : List zL} {I : zI} {J : zJ} {S : zS} (hM : kM lay) (hV : vM I J S) : zMet lay MX10_undo 1 [.ref 79] I J (fun r I' J' => zPM I J (fundo S) r I' J') := by
  refine zMet_of (t := MX10_undo) (ls := [.ref 79]) (by decide +kernel) (Nat.le_of_ble_eq_true rfl) rfl ?_
  obtain ⟨mo, m80, m81, m82, m83, m84, m85, m86, m87, m88, m89, m90, m91, m92, m93, m94, m95, m96⟩ := id hM
  have hW : vW I S.n := hV.1.1
  have hb := hV.1.2.1
  have hG := hV.1.2.2
  have hB := hb.1
  have hT := hb.2.1
  obtain ⟨b1, b2, b3, b4, b5, b6, b7, b8⟩ := id hB
  obtain ⟨u1, u2, u3⟩ := hV.2.1
  refine z_aload_n (pc := 0) dX10_undo_0 rfl rfl ?_
  refine z_getIv (pc := 1) dX10_undo_1 f_RX10_299 (by assumption) rfl (by first | assumption | rfl) ?_
  first | refine z_if_neN (pc := 4) (tgt := 10) (by with_reducible rfl) dX10_undo_4 (by decide) (by omega) (fun hb4 => ?_) (fun hb4 => ?_) | refine z_if_ne (pc := 4) (tgt := 10) dX10_undo_4 (by decide) (fun hb4 => ?_) (fun hb4 => ?_)
  · skip
    obtain ⟨g0, hg1, hg2⟩ := u3 (by omega)
    have hWz : vW (zcp I 81 0 80 0 73) S.g := (fun k hk => by rw [zcp_b]; dsimp only; rw [if_pos (by omega), show 0 + (k - 0) = k by omega]; exact g0 k hk)
    refine z_aload_n (pc := 10) dX10_undo_10 rfl rfl ?_
    refine z_getR (pc := 11) dX10_undo_11 f_RX10_15 (by assumption) rfl ?_
    refine z_iconst (pc := 14) (v := nI 0) dX10_undo_14 (by decide) ?_
    refine z_aload_n (pc := 15) dX10_undo_15 rfl rfl ?_
    refine z_getR (pc := 16) dX10_undo_16 f_RX10_11 (by assumption) rfl ?_
    refine z_iconst (pc := 19) (v := nI 0) dX10_undo_19 (by decide) ?_
    refine z_bipush (pc := 20) (v := nI 73) dX10_undo_20 (by decide) ?_
    first | refine z_copyI (pc := 22) dX10_undo_22 lc_RX10_177 (by assumption) (by assumption) rfl rfl rfl (by omega) (by omega) (by decide) (by decide) (by omega) (Nat.le_of_ble_eq_true rfl) ?_ | refine z_copyJ (pc := 22) dX10_undo_22 lc_RX10_177 (by assumption) (by assumption) rfl rfl rfl (by omega) (by omega) (by decide) (by decide) (by omega) (Nat.le_of_ble_eq_true rfl) ?_
    refine z_aload_n (pc := 25) dX10_undo_25 rfl rfl ?_
    refine z_callV (pc := 26) (c_X10_cells hM hWz hg1.1) dX10_undo_26 l_RX10_303 m_MX10_cells n_MX10_cells e_MX10_cells rfl (by omega) (by assumption) rfl rfl (Nat.le_of_ble_eq_true rfl) ?_
    rintro _ _ _ (⟨rfl, rfl, rfl⟩)
    try dsimp only [zov, Option.toList, List.cons_append, List.nil_append]
    refine z_iret (pc := 29) dX10_undo_29 rfl ?_
    first
    | exact zPM_same hV (if_pos hb4)
    | exact zPM_now hV (fun x y h _ => by rw [zcp_o h]) (zmJ_r _) hWz hg1 hg2 (if_neg hb4)
    | fail
  · skip
    refine z_bipush (pc := 7) (v := -3) dX10_undo_7 (by decide) ?_
    refine z_iret (pc := 9) dX10_undo_9 rfl ?_
    first
    | exact zPM_same hV (if_pos hb4)
    | exact zPM_now hV (fun x y h _ => by rw [zcp_o h]) (zmJ_r _) hWz hg1 hg2 (if_neg hb4)
    | fail
set_option maxHeartbeats 2000000 in
set_option maxRecDepth 20000 in
theorem c_X10_count {lay : List zL} {I : zI} {J : zJ} {S : zS} (hM : kM lay) (hV : vM I J S) {w : Int32} : zMet lay MX10_count 0 [.ref 79, .int w] I J (fun r I' J' => zPM I J (fcount S w) r I' J') := by
  refine zMet_of (t := MX10_count) (ls := [.ref 79, .int w]) (by decide +kernel) (Nat.le_of_ble_eq_true rfl) rfl ?_
  obtain ⟨mo, m80, m81, m82, m83, m84, m85, m86, m87, m88, m89, m90, m91, m92, m93, m94, m95, m96⟩ := id hM
  have hW : vW I S.n := hV.1.1
  have hb := hV.1.2.1
  have hG := hV.1.2.2
  have hB := hb.1
  have hT := hb.2.1
  obtain ⟨b1, b2, b3, b4, b5, b6, b7, b8⟩ := id hB
  have hl := hV.2.2.1.1
  refine z_iload_n (pc := 0) dX10_count_0 rfl rfl ?_
  by_cases hsw0 : w = nI 0
  · subst hsw0
    refine z_tableIn (pc := 1) (off := 31) (tgt := 32) dX10_count_1 (by decide) (by decide) (by decide) (by decide) ?_
    refine z_aload_n (pc := 32) dX10_count_32 rfl rfl ?_
    refine z_getR (pc := 33) dX10_count_33 f_RX10_11 (by assumption) rfl ?_
    refine z_iconst (pc := 36) (v := nI 4) dX10_count_36 (by decide) ?_
    refine z_ialoadv (pc := 37) dX10_count_37 (by assumption) (by with_reducible rfl) (by omega) (by decide) (by first | assumption | exact hW _ (by omega) | rfl) ?_
    refine z_iret (pc := 38) dX10_count_38 rfl ?_
    first
      | exact zPM_same hV fcount_0
      | exact zPM_same hV fcount_1
      | exact zPM_same hV fcount_2
      | exact zPM_same hV fcount_3
      | exact zPM_same hV (fcount_4 hsw0 hsw1 hsw2 hsw3)
      | fail
  by_cases hsw1 : w = nI 1
  · subst hsw1
    refine z_tableIn (pc := 1) (off := 38) (tgt := 39) dX10_count_1 (by decide) (by decide) (by decide) (by decide) ?_
    refine z_aload_n (pc := 39) dX10_count_39 rfl rfl ?_
    refine z_getR (pc := 40) dX10_count_40 f_RX10_11 (by assumption) rfl ?_
    refine z_iconst (pc := 43) (v := nI 5) dX10_count_43 (by decide) ?_
    refine z_ialoadv (pc := 44) dX10_count_44 (by assumption) (by with_reducible rfl) (by omega) (by decide) (by first | assumption | exact hW _ (by omega) | rfl) ?_
    refine z_iret (pc := 45) dX10_count_45 rfl ?_
    first
      | exact zPM_same hV fcount_0
      | exact zPM_same hV fcount_1
      | exact zPM_same hV fcount_2
      | exact zPM_same hV fcount_3
      | exact zPM_same hV (fcount_4 hsw0 hsw1 hsw2 hsw3)
      | fail
  by_cases hsw2 : w = nI 2
  · subst hsw2
    refine z_tableIn (pc := 1) (off := 45) (tgt := 46) dX10_count_1 (by decide) (by decide) (by decide) (by decide) ?_
    refine z_aload_n (pc := 46) dX10_count_46 rfl rfl ?_
    refine z_getR (pc := 47) dX10_count_47 f_RX10_11 (by assumption) rfl ?_
    refine z_bipush (pc := 50) (v := nI 6) dX10_count_50 (by decide) ?_
    refine z_ialoadv (pc := 52) dX10_count_52 (by assumption) (by with_reducible rfl) (by omega) (by decide) (by first | assumption | exact hW _ (by omega) | rfl) ?_
    refine z_iret (pc := 53) dX10_count_53 rfl ?_
    first
      | exact zPM_same hV fcount_0
      | exact zPM_same hV fcount_1
      | exact zPM_same hV fcount_2
      | exact zPM_same hV fcount_3
      | exact zPM_same hV (fcount_4 hsw0 hsw1 hsw2 hsw3)
      | fail
  by_cases hsw3 : w = nI 3
  · subst hsw3
    refine z_tableIn (pc := 1) (off := 53) (tgt := 54) dX10_count_1 (by decide) (by decide) (by decide) (by decide) ?_
    refine z_aload_n (pc := 54) dX10_count_54 rfl rfl ?_
    refine z_getIv (pc := 55) dX10_count_55 f_RX10_107 (by assumption) rfl (by first | assumption | exact hW _ (by omega) | rfl) ?_
    refine z_iret (pc := 58) dX10_count_58 rfl ?_
    first
      | exact zPM_same hV fcount_0
      | exact zPM_same hV fcount_1
      | exact zPM_same hV fcount_2
      | exact zPM_same hV fcount_3
      | exact zPM_same hV (fcount_4 hsw0 hsw1 hsw2 hsw3)
      | fail
  · skip
    refine z_tableOut (pc := 1) (tgt := 59) dX10_count_1 (by have e0 : w.toInt ≠ 0 := fun h => hsw0 (Int32.toInt_inj.mp (h.trans (by decide))); have e1 : w.toInt ≠ 1 := fun h => hsw1 (Int32.toInt_inj.mp (h.trans (by decide))); have e2 : w.toInt ≠ 2 := fun h => hsw2 (Int32.toInt_inj.mp (h.trans (by decide))); have e3 : w.toInt ≠ 3 := fun h => hsw3 (Int32.toInt_inj.mp (h.trans (by decide))); omega) (by decide) ?_
    refine z_bipush (pc := 59) (v := -2) dX10_count_59 (by decide) ?_
    refine z_iret (pc := 61) dX10_count_61 rfl ?_
    first
      | exact zPM_same hV fcount_0
      | exact zPM_same hV fcount_1
      | exact zPM_same hV fcount_2
      | exact zPM_same hV fcount_3
      | exact zPM_same hV (fcount_4 hsw0 hsw1 hsw2 hsw3)
      | fail
