/-! ===== the model's calls: rows told by hand, odds, means ===== -/
theorem zls1_n {n n' : Nat → Nat} {e : Nat} (h0 : n' 0 = n 0) (h1 : n' 1 = n 1) (h : zls1 n e) : zls1 n' e := by
  unfold zls1
  rw [h0, h1]; exact h
theorem zevok_n {n n' : Nat → Nat} {w v : Nat} (h0 : n' 0 = n 0) (h1 : n' 1 = n 1) (h : zevok n w v) : zevok n' w v := by
  unfold zevok
  rw [h0, h1]; exact h
theorem bN_mk {n n' : Nat → Nat} (h : bN n) (e : ∀ k, (k < 4 ∨ (7 ≤ k ∧ k < 52)) → n' k = n k) (c : n' 4 ≤ 5 ∧ n' 5 ≤ 8 ∧ n' 6 ≤ 8) (r4 : ∀ k, k < n' 4 → zls1 n (n' (52 + k))) (r5 : ∀ k, k < n' 5 → zevok n (n' (57 + k) / 100) (n' (57 + k) % 100)) (r6 : ∀ k, k < n' 6 → zls1 n (n' (65 + k))) : bN n' := by
  have h0 := e 0 (by omega)
  have h1 := e 1 (by omega)
  refine ⟨bS_to h.1 (fun k hk => e k (by omega)), fun k hk => ?_, c, fun k hk => zls1_n h0 h1 (r4 k hk), fun k hk => zevok_n h0 h1 (r5 k hk), fun k hk => zls1_n h0 h1 (r6 k hk)⟩
  rw [e _ (by omega), e _ (by omega)]; exact h.2.1 k hk
theorem bN_l0 {n : Nat → Nat} {m : Nat} (h : bN n) (hm : m = 4 ∨ m = 5 ∨ m = 6) : bN (zset1 n m 0) := by
  obtain ⟨h1, h2, ⟨c4, c5, c6⟩, r4, r5, r6⟩ := id h
  rcases hm with rfl | rfl | rfl
  · have z : zset1 n 4 0 4 = 0 := zset1_s
    refine bN_mk h (fun k hk => zset1_o (by omega)) ⟨by rw [z]; omega, by rw [zset1_o (by omega)]; exact c5, by rw [zset1_o (by omega)]; exact c6⟩ (fun k hk => ?_) (fun k hk => ?_) (fun k hk => ?_)
    · rw [z] at hk; exact absurd hk (by omega)
    · rw [zset1_o (by omega)] at hk; rw [zset1_o (by omega)]; exact r5 k hk
    · rw [zset1_o (by omega)] at hk; rw [zset1_o (by omega)]; exact r6 k hk
  · have z : zset1 n 5 0 5 = 0 := zset1_s
    refine bN_mk h (fun k hk => zset1_o (by omega)) ⟨by rw [zset1_o (by omega)]; exact c4, by rw [z]; omega, by rw [zset1_o (by omega)]; exact c6⟩ (fun k hk => ?_) (fun k hk => ?_) (fun k hk => ?_)
    · rw [zset1_o (by omega)] at hk; rw [zset1_o (by omega)]; exact r4 k hk
    · rw [z] at hk; exact absurd hk (by omega)
    · rw [zset1_o (by omega)] at hk; rw [zset1_o (by omega)]; exact r6 k hk
  · have z : zset1 n 6 0 6 = 0 := zset1_s
    refine bN_mk h (fun k hk => zset1_o (by omega)) ⟨by rw [zset1_o (by omega)]; exact c4, by rw [zset1_o (by omega)]; exact c5, by rw [z]; omega⟩ (fun k hk => ?_) (fun k hk => ?_) (fun k hk => ?_)
    · rw [zset1_o (by omega)] at hk; rw [zset1_o (by omega)]; exact r4 k hk
    · rw [zset1_o (by omega)] at hk; rw [zset1_o (by omega)]; exact r5 k hk
    · rw [z] at hk; exact absurd hk (by omega)
theorem bN_la4 {n : Nat → Nat} {e : Nat} (h : bN n) (hc : n 4 < 5) (he : zls1 n e) : bN (zset1 (zset1 n (52 + n 4) e) 4 (n 4 + 1)) := by
  obtain ⟨h1, h2, ⟨c4, c5, c6⟩, r4, r5, r6⟩ := id h
  have z : zset1 (zset1 n (52 + n 4) e) 4 (n 4 + 1) 4 = n 4 + 1 := zset1_s
  refine bN_mk h (fun k hk => by by_cases q : k = 4; omega; rw [zset1_o q, zset1_o (by omega)]) ⟨by rw [z]; omega, by rw [zset1_o (by omega), zset1_o (by omega)]; exact c5, by rw [zset1_o (by omega), zset1_o (by omega)]; exact c6⟩ (fun k hk => ?_) (fun k hk => ?_) (fun k hk => ?_)
  · rw [z] at hk
    rw [zset1_o (by omega)]
    by_cases q : k = n 4
    · rw [q, zset1_s]; exact he
    · rw [zset1_o (by omega)]; exact r4 k (by omega)
  · rw [zset1_o (by omega), zset1_o (by omega)] at hk; rw [zset1_o (by omega), zset1_o (by omega)]; exact r5 k hk
  · rw [zset1_o (by omega), zset1_o (by omega)] at hk; rw [zset1_o (by omega), zset1_o (by omega)]; exact r6 k hk
theorem bN_la6 {n : Nat → Nat} {e : Nat} (h : bN n) (hc : n 6 < 8) (he : zls1 n e) : bN (zset1 (zset1 n (65 + n 6) e) 6 (n 6 + 1)) := by
  obtain ⟨h1, h2, ⟨c4, c5, c6⟩, r4, r5, r6⟩ := id h
  have z : zset1 (zset1 n (65 + n 6) e) 6 (n 6 + 1) 6 = n 6 + 1 := zset1_s
  refine bN_mk h (fun k hk => by by_cases q : k = 6; omega; rw [zset1_o q, zset1_o (by omega)]) ⟨by rw [zset1_o (by omega), zset1_o (by omega)]; exact c4, by rw [zset1_o (by omega), zset1_o (by omega)]; exact c5, by rw [z]; omega⟩ (fun k hk => ?_) (fun k hk => ?_) (fun k hk => ?_)
  · rw [zset1_o (by omega), zset1_o (by omega)] at hk; rw [zset1_o (by omega), zset1_o (by omega)]; exact r4 k hk
  · rw [zset1_o (by omega), zset1_o (by omega)] at hk; rw [zset1_o (by omega), zset1_o (by omega)]; exact r5 k hk
  · rw [z] at hk
    rw [zset1_o (by omega)]
    by_cases q : k = n 6
    · rw [q, zset1_s]; exact he
    · rw [zset1_o (by omega)]; exact r6 k (by omega)
theorem bN_la5 {n : Nat → Nat} {e : Nat} (h : bN n) (hc : n 5 < 8) (he : zevok n (e / 100) (e % 100)) : bN (zset1 (zset1 n (57 + n 5) e) 5 (n 5 + 1)) := by
  obtain ⟨h1, h2, ⟨c4, c5, c6⟩, r4, r5, r6⟩ := id h
  have z : zset1 (zset1 n (57 + n 5) e) 5 (n 5 + 1) 5 = n 5 + 1 := zset1_s
  refine bN_mk h (fun k hk => by by_cases q : k = 5; omega; rw [zset1_o q, zset1_o (by omega)]) ⟨by rw [zset1_o (by omega), zset1_o (by omega)]; exact c4, by rw [z]; omega, by rw [zset1_o (by omega), zset1_o (by omega)]; exact c6⟩ (fun k hk => ?_) (fun k hk => ?_) (fun k hk => ?_)
  · rw [zset1_o (by omega), zset1_o (by omega)] at hk; rw [zset1_o (by omega), zset1_o (by omega)]; exact r4 k hk
  · rw [z] at hk
    rw [zset1_o (by omega)]
    by_cases q : k = n 5
    · rw [q, zset1_s]; exact he
    · rw [zset1_o (by omega)]; exact r5 k (by omega)
  · rw [zset1_o (by omega), zset1_o (by omega)] at hk; rw [zset1_o (by omega), zset1_o (by omega)]; exact r6 k hk
theorem zset2_bG {n : Nat → Nat} {a b x y : Nat} (h : bG n) (ha : a < 34 ∨ 52 ≤ a) (hb : b < 34 ∨ 52 ≤ b) : bG (zset1 (zset1 n a x) b y) := zset1_bG (zset1_bG h ha) hb
def zml (m o most : Nat) : Prop := (m = 4 ∧ o = 52 ∧ most = 5) ∨ (m = 6 ∧ o = 65 ∧ most = 8)
theorem bN_la {n : Nat → Nat} {m o most e : Nat} (hm : zml m o most) (h : bN n) (hc : ¬ n m = most) (he : zls1 n e) : bN (zset1 (zset1 n (o + n m) e) m (n m + 1)) := by
  have c := h.2.2.1
  rcases hm with ⟨rfl, rfl, rfl⟩ | ⟨rfl, rfl, rfl⟩
  · exact bN_la4 h (by omega) he
  · exact bN_la6 h (by omega) he
theorem zls1_e {n : Nat → Nat} {a b x : Nat} (h0 : n 0 ≤ 3) (h1 : n 1 ≤ 3) (ha : a < n 0) (hb : b < n 1) (hx : x ≤ 60) : zls1 n (100 * (3 * a + b) + x) := by
  unfold zls1
  rw [show (100 * (3 * a + b) + x) / 100 = 3 * a + b by omega]
  refine ⟨by omega, by omega, by omega⟩
set_option maxHeartbeats 2000000 in
set_option maxRecDepth 20000 in
theorem c_X10_lists {lay : List zL} {I : zI} {J : zJ} {S : zS} (hM : kM lay) (hV : vM I J S) {m o most : Nat} (hm : zml m o most) {i j v : Int32} : zMet lay MX10_lists 2 [.ref 79, .int (nI m), .int (nI o), .int (nI most), .int i, .int j, .int v] I J (fun r I' J' => zPM I J (flist S m o most i j v) r I' J') := by
  refine zMet_of (t := MX10_lists) (ls := [.ref 79, .int (nI m), .int (nI o), .int (nI most), .int i, .int j, .int v]) (by decide +kernel) (Nat.le_of_ble_eq_true rfl) rfl ?_
  obtain ⟨mo, m80, m81, m82, m83, m84, m85, m86, m87, m88, m89, m90, m91, m92, m93, m94, m95, m96⟩ := id hM
  have hW : vW I S.n := hV.1.1
  have hb := hV.1.2.1
  have hG := hV.1.2.2
  have hB := hb.1
  have hT := hb.2.1
  obtain ⟨b1, b2, b3, b4, b5, b6, b7, b8⟩ := id hB
  have hcc := hb.2.2.1
  have hmb : m < 7 ∧ 4 ≤ m ∧ S.n m ≤ most ∧ most ≤ 8 ∧ o + most ≤ 73 ∧ 52 ≤ o := (by
    unfold zml at hm
    rcases hm with ⟨rfl, rfl, rfl⟩ | ⟨rfl, rfl, rfl⟩ <;> omega)
  have hl9 : ∀ v, zup I 80 (o + S.n m) v 80 m = nI (S.n m) := fun v => (zup_n _ _ (by omega)).trans (hW m (by omega))
  refine z_iload (pc := 0) dX10_lists_0 rfl ?_
  refine z_iconst (pc := 2) (v := -1) dX10_lists_2 (by decide) ?_
  refine z_icmp_ne (pc := 3) (tgt := 15) dX10_lists_3 (by decide) (fun hb3 => ?_) (fun hb3 => ?_)
  · skip
    refine z_aload_n (pc := 15) dX10_lists_15 rfl rfl ?_
    refine z_iload (pc := 16) dX10_lists_16 rfl ?_
    refine z_iload (pc := 18) dX10_lists_18 rfl ?_
    refine z_callV (pc := 20) (c_X10_isCell hM hW hB) dX10_lists_20 l_RX10_72 m_MX10_isCell n_MX10_isCell e_MX10_isCell rfl (by omega) (by assumption) rfl rfl (Nat.le_of_ble_eq_true rfl) ?_
    rintro _ _ _ ⟨⟨rfl, hc⟩ | ⟨rfl, hc⟩, rfl, rfl⟩
    · obtain ⟨a, b, rfl, rfl, ha, hbb⟩ := hc; have hk : 3 * a + b < 9 := (by omega); have ea : 3 * a + b = 3 * a + b := rfl
      try dsimp only [zov, Option.toList, List.cons_append, List.nil_append]
      first | refine z_if_neN (pc := 23) (tgt := 28) (by with_reducible rfl) dX10_lists_23 (by decide) (by omega) (fun hb23 => ?_) (fun hb23 => absurd hb23 (by decide)) | refine z_if_ne (pc := 23) (tgt := 28) dX10_lists_23 (by decide) (fun hb23 => ?_) (fun hb23 => absurd hb23 (by decide))
      · skip
        refine z_iload (pc := 28) dX10_lists_28 rfl ?_
        first | refine z_i2lN (pc := 30) (by with_reducible rfl) dX10_lists_30 (by omega) ?_ | refine z_i2l (pc := 30) dX10_lists_30 rfl ?_
        refine z_lconst (pc := 31) (v := lN 0) dX10_lists_31 rfl ?_
        refine z_ldc2 (pc := 32) (v := lN 60) dX10_lists_32 q_RX10_100 ?_
        refine z_callS (pc := 35) (c_X10_withinI (by omega) (by omega)) dX10_lists_35 l_RX10_68 m_MX10_within s_MX10_within rfl (by omega) rfl (Nat.le_of_ble_eq_true rfl) ?_
        rintro _ _ _ ⟨⟨rfl, hx⟩ | ⟨rfl, hx⟩, rfl, rfl⟩
        · obtain ⟨x, rfl, hx0, hx1⟩ := hx
          try dsimp only [zov, Option.toList, List.cons_append, List.nil_append]
          first | refine z_if_neN (pc := 38) (tgt := 44) (by with_reducible rfl) dX10_lists_38 (by decide) (by omega) (fun hb38 => ?_) (fun hb38 => absurd hb38 (by decide)) | refine z_if_ne (pc := 38) (tgt := 44) dX10_lists_38 (by decide) (fun hb38 => ?_) (fun hb38 => absurd hb38 (by decide))
          · skip
            refine z_aload_n (pc := 44) dX10_lists_44 rfl rfl ?_
            refine z_getR (pc := 45) dX10_lists_45 f_RX10_11 (by assumption) rfl ?_
            refine z_iload_n (pc := 48) dX10_lists_48 rfl rfl ?_
            refine z_ialoadv (pc := 49) dX10_lists_49 (by assumption) (by with_reducible rfl) (by omega) (by decide) (by first | assumption | exact hW _ (by omega) | exact hl9 _ | exact zup_s _ _ _ _ | rfl) ?_
            refine z_iload_n (pc := 50) dX10_lists_50 rfl rfl ?_
            first | refine z_icmp_neN (pc := 51) (tgt := 57) (by with_reducible rfl) (by with_reducible rfl) dX10_lists_51 (by decide) (by omega) (by omega) (fun hb51 => ?_) (fun hb51 => ?_) | refine z_icmp_ne (pc := 51) (tgt := 57) dX10_lists_51 (by decide) (fun hb51 => ?_) (fun hb51 => ?_)
            · skip
              refine z_aload_n (pc := 57) dX10_lists_57 rfl rfl ?_
              refine z_getR (pc := 58) dX10_lists_58 f_RX10_11 (by assumption) rfl ?_
              refine z_iload_n (pc := 61) dX10_lists_61 rfl rfl ?_
              refine z_aload_n (pc := 62) dX10_lists_62 rfl rfl ?_
              refine z_getR (pc := 63) dX10_lists_63 f_RX10_11 (by assumption) rfl ?_
              refine z_iload_n (pc := 66) dX10_lists_66 rfl rfl ?_
              refine z_ialoadv (pc := 67) dX10_lists_67 (by assumption) (by with_reducible rfl) (by omega) (by decide) (by first | assumption | exact hW _ (by omega) | exact hl9 _ | exact zup_s _ _ _ _ | rfl) ?_
              first | refine z_iaddN (pc := 68) (by with_reducible rfl) (by with_reducible rfl) dX10_lists_68 ?_ | refine z_iadd (pc := 68) dX10_lists_68 ?_
              refine z_bipush (pc := 69) (v := nI 100) dX10_lists_69 (by decide) ?_
              refine z_iconst (pc := 71) (v := nI 3) dX10_lists_71 (by decide) ?_
              refine z_iload (pc := 72) dX10_lists_72 rfl ?_
              first | refine z_imulN (pc := 74) (by with_reducible rfl) (by with_reducible rfl) dX10_lists_74 ?_ | refine z_imul (pc := 74) dX10_lists_74 ?_
              refine z_iload (pc := 75) dX10_lists_75 rfl ?_
              first | refine z_iaddN (pc := 77) (by with_reducible rfl) (by with_reducible rfl) dX10_lists_77 ?_ | refine z_iadd (pc := 77) dX10_lists_77 ?_
              first | refine z_imulN (pc := 78) (by with_reducible rfl) (by with_reducible rfl) dX10_lists_78 ?_ | refine z_imul (pc := 78) dX10_lists_78 ?_
              refine z_iload (pc := 79) dX10_lists_79 rfl ?_
              first | refine z_iaddN (pc := 81) (by with_reducible rfl) (by with_reducible rfl) dX10_lists_81 ?_ | refine z_iadd (pc := 81) dX10_lists_81 ?_
              refine z_iastore (pc := 82) dX10_lists_82 (by assumption) (by with_reducible rfl) (by omega) (by decide) ?_
              refine z_aload_n (pc := 83) dX10_lists_83 rfl rfl ?_
              refine z_getR (pc := 84) dX10_lists_84 f_RX10_11 (by assumption) rfl ?_
              refine z_iload_n (pc := 87) dX10_lists_87 rfl rfl ?_
              refine z_dup2 (pc := 88) dX10_lists_88 rfl rfl ?_
              refine z_ialoadv (pc := 89) dX10_lists_89 (by assumption) (by with_reducible rfl) (by omega) (by decide) (by first | assumption | exact hW _ (by omega) | exact hl9 _ | exact zup_s _ _ _ _ | rfl) ?_
              refine z_iconst (pc := 90) (v := nI 1) dX10_lists_90 (by decide) ?_
              first | refine z_iaddN (pc := 91) (by with_reducible rfl) (by with_reducible rfl) dX10_lists_91 ?_ | refine z_iadd (pc := 91) dX10_lists_91 ?_
              refine z_iastore (pc := 92) dX10_lists_92 (by assumption) (by with_reducible rfl) (by omega) (by decide) ?_
              refine z_aload_n (pc := 93) dX10_lists_93 rfl rfl ?_
              refine z_getR (pc := 94) dX10_lists_94 f_RX10_11 (by assumption) rfl ?_
              refine z_iload_n (pc := 97) dX10_lists_97 rfl rfl ?_
              refine z_ialoadv (pc := 98) dX10_lists_98 (by assumption) (by with_reducible rfl) (by omega) (by decide) (by first | assumption | exact hW _ (by omega) | exact hl9 _ | exact zup_s _ _ _ _ | rfl) ?_
              refine z_iret (pc := 99) dX10_lists_99 rfl ?_
              first
                | (subst hb3; rw [flist_0]; exact zPM_now hV (fun x y q _ => zup_n _ _ (by omega)) (zmJ_r _) (vW_up hW) (bN_l0 hb (by unfold zml at hm; omega)) (zset1_bG hG (by omega)) rfl)
                | exact zPM_same hV (flist_1 hb3 hc)
                | exact zPM_same hV (flist_2 hb3 b2 b4 ha hbb (isR_no hx))
                | exact zPM_same hV (flist_3 hb3 b2 b4 ha hbb hx1 hb51)
                | (rw [flist_4 hb3 b2 b4 ha hbb hx1 hb51]
                   exact zPM_now hV (fun x y q _ => by rw [zup_n _ _ (by omega), zup_n _ _ (by omega)]) (zmJ_r _) (vW_up (vW_up hW)) (bN_la hm hb hb51 (zls1_e b2 b4 ha hbb hx1)) (zset2_bG hG (by omega) (by omega)) rfl)
                | fail
            · skip
              refine z_bipush (pc := 54) (v := -4) dX10_lists_54 (by decide) ?_
              refine z_iret (pc := 56) dX10_lists_56 rfl ?_
              first
                | (subst hb3; rw [flist_0]; exact zPM_now hV (fun x y q _ => zup_n _ _ (by omega)) (zmJ_r _) (vW_up hW) (bN_l0 hb (by unfold zml at hm; omega)) (zset1_bG hG (by omega)) rfl)
                | exact zPM_same hV (flist_1 hb3 hc)
                | exact zPM_same hV (flist_2 hb3 b2 b4 ha hbb (isR_no hx))
                | exact zPM_same hV (flist_3 hb3 b2 b4 ha hbb hx1 hb51)
                | (rw [flist_4 hb3 b2 b4 ha hbb hx1 hb51]
                   exact zPM_now hV (fun x y q _ => by rw [zup_n _ _ (by omega), zup_n _ _ (by omega)]) (zmJ_r _) (vW_up (vW_up hW)) (bN_la hm hb hb51 (zls1_e b2 b4 ha hbb hx1)) (zset2_bG hG (by omega) (by omega)) rfl)
                | fail
        · skip
          try dsimp only [zov, Option.toList, List.cons_append, List.nil_append]
          first | refine z_if_neN (pc := 38) (tgt := 44) (by with_reducible rfl) dX10_lists_38 (by decide) (by omega) (fun hb38 => absurd hb38 (by decide)) (fun hb38 => ?_) | refine z_if_ne (pc := 38) (tgt := 44) dX10_lists_38 (by decide) (fun hb38 => absurd hb38 (by decide)) (fun hb38 => ?_)
          · skip
            refine z_bipush (pc := 41) (v := -2) dX10_lists_41 (by decide) ?_
            refine z_iret (pc := 43) dX10_lists_43 rfl ?_
            first
              | (subst hb3; rw [flist_0]; exact zPM_now hV (fun x y q _ => zup_n _ _ (by omega)) (zmJ_r _) (vW_up hW) (bN_l0 hb (by unfold zml at hm; omega)) (zset1_bG hG (by omega)) rfl)
              | exact zPM_same hV (flist_1 hb3 hc)
              | exact zPM_same hV (flist_2 hb3 b2 b4 ha hbb (isR_no hx))
              | exact zPM_same hV (flist_3 hb3 b2 b4 ha hbb hx1 hb51)
              | (rw [flist_4 hb3 b2 b4 ha hbb hx1 hb51]
                 exact zPM_now hV (fun x y q _ => by rw [zup_n _ _ (by omega), zup_n _ _ (by omega)]) (zmJ_r _) (vW_up (vW_up hW)) (bN_la hm hb hb51 (zls1_e b2 b4 ha hbb hx1)) (zset2_bG hG (by omega) (by omega)) rfl)
              | fail
    · skip
      try dsimp only [zov, Option.toList, List.cons_append, List.nil_append]
      first | refine z_if_neN (pc := 23) (tgt := 28) (by with_reducible rfl) dX10_lists_23 (by decide) (by omega) (fun hb23 => absurd hb23 (by decide)) (fun hb23 => ?_) | refine z_if_ne (pc := 23) (tgt := 28) dX10_lists_23 (by decide) (fun hb23 => absurd hb23 (by decide)) (fun hb23 => ?_)
      · skip
        refine z_iconst (pc := 26) (v := -1) dX10_lists_26 (by decide) ?_
        refine z_iret (pc := 27) dX10_lists_27 rfl ?_
        first
          | (subst hb3; rw [flist_0]; exact zPM_now hV (fun x y q _ => zup_n _ _ (by omega)) (zmJ_r _) (vW_up hW) (bN_l0 hb (by unfold zml at hm; omega)) (zset1_bG hG (by omega)) rfl)
          | exact zPM_same hV (flist_1 hb3 hc)
          | exact zPM_same hV (flist_2 hb3 b2 b4 ha hbb (isR_no hx))
          | exact zPM_same hV (flist_3 hb3 b2 b4 ha hbb hx1 hb51)
          | (rw [flist_4 hb3 b2 b4 ha hbb hx1 hb51]
             exact zPM_now hV (fun x y q _ => by rw [zup_n _ _ (by omega), zup_n _ _ (by omega)]) (zmJ_r _) (vW_up (vW_up hW)) (bN_la hm hb hb51 (zls1_e b2 b4 ha hbb hx1)) (zset2_bG hG (by omega) (by omega)) rfl)
          | fail
  · skip
    refine z_aload_n (pc := 6) dX10_lists_6 rfl rfl ?_
    refine z_getR (pc := 7) dX10_lists_7 f_RX10_11 (by assumption) rfl ?_
    refine z_iload_n (pc := 10) dX10_lists_10 rfl rfl ?_
    refine z_iconst (pc := 11) (v := nI 0) dX10_lists_11 (by decide) ?_
    refine z_iastore (pc := 12) dX10_lists_12 (by assumption) (by with_reducible rfl) (by omega) (by decide) ?_
    refine z_iconst (pc := 13) (v := nI 0) dX10_lists_13 (by decide) ?_
    refine z_iret (pc := 14) dX10_lists_14 rfl ?_
    first
      | (subst hb3; rw [flist_0]; exact zPM_now hV (fun x y q _ => zup_n _ _ (by omega)) (zmJ_r _) (vW_up hW) (bN_l0 hb (by unfold zml at hm; omega)) (zset1_bG hG (by omega)) rfl)
      | exact zPM_same hV (flist_1 hb3 hc)
      | exact zPM_same hV (flist_2 hb3 b2 b4 ha hbb (isR_no hx))
      | exact zPM_same hV (flist_3 hb3 b2 b4 ha hbb hx1 hb51)
      | (rw [flist_4 hb3 b2 b4 ha hbb hx1 hb51]
         exact zPM_now hV (fun x y q _ => by rw [zup_n _ _ (by omega), zup_n _ _ (by omega)]) (zmJ_r _) (vW_up (vW_up hW)) (bN_la hm hb hb51 (zls1_e b2 b4 ha hbb hx1)) (zset2_bG hG (by omega) (by omega)) rfl)
      | fail
set_option maxHeartbeats 2000000 in
set_option maxRecDepth 20000 in
theorem c_X10_see {lay : List zL} {I : zI} {J : zJ} {S : zS} (hM : kM lay) (hV : vM I J S) {i j v : Int32} : zMet lay MX10_see 3 [.ref 79, .int i, .int j, .int v] I J (fun r I' J' => zPM I J (flist S 4 52 5 i j v) r I' J') := by
  refine zMet_of (t := MX10_see) (ls := [.ref 79, .int i, .int j, .int v]) (by decide +kernel) (Nat.le_of_ble_eq_true rfl) rfl ?_
  obtain ⟨mo, m80, m81, m82, m83, m84, m85, m86, m87, m88, m89, m90, m91, m92, m93, m94, m95, m96⟩ := id hM
  refine z_aload_n (pc := 0) dX10_see_0 rfl rfl ?_
  refine z_iconst (pc := 1) (v := nI 4) dX10_see_1 (by decide) ?_
  refine z_bipush (pc := 2) (v := nI 52) dX10_see_2 (by decide) ?_
  refine z_iconst (pc := 4) (v := nI 5) dX10_see_4 (by decide) ?_
  refine z_iload_n (pc := 5) dX10_see_5 rfl rfl ?_
  refine z_iload_n (pc := 6) dX10_see_6 rfl rfl ?_
  refine z_iload_n (pc := 7) dX10_see_7 rfl rfl ?_
  refine z_callV (pc := 8) (c_X10_lists hM hV (by unfold zml; omega)) dX10_see_8 l_RX10_269 m_MX10_lists n_MX10_lists e_MX10_lists rfl (by omega) (by assumption) rfl rfl (Nat.le_of_ble_eq_true rfl) ?_
  rintro _ _ _ (hp)
  obtain ⟨x9, e9⟩ := flist_i (S := S) (m := 4) (o := 52) (most := 5) (i := i) (j := j) (v := v)
  obtain rfl := hp.1.trans e9
  try dsimp only [zov, Option.toList, List.cons_append, List.nil_append]
  refine z_iret (pc := 11) dX10_see_11 rfl ?_
  exact hp
set_option maxHeartbeats 2000000 in
set_option maxRecDepth 20000 in
theorem c_X10_book {lay : List zL} {I : zI} {J : zJ} {S : zS} (hM : kM lay) (hV : vM I J S) {i j v : Int32} : zMet lay MX10_book 3 [.ref 79, .int i, .int j, .int v] I J (fun r I' J' => zPM I J (flist S 6 65 8 i j v) r I' J') := by
  refine zMet_of (t := MX10_book) (ls := [.ref 79, .int i, .int j, .int v]) (by decide +kernel) (Nat.le_of_ble_eq_true rfl) rfl ?_
  obtain ⟨mo, m80, m81, m82, m83, m84, m85, m86, m87, m88, m89, m90, m91, m92, m93, m94, m95, m96⟩ := id hM
  refine z_aload_n (pc := 0) dX10_book_0 rfl rfl ?_
  refine z_bipush (pc := 1) (v := nI 6) dX10_book_1 (by decide) ?_
  refine z_bipush (pc := 3) (v := nI 65) dX10_book_3 (by decide) ?_
  refine z_bipush (pc := 5) (v := nI 8) dX10_book_5 (by decide) ?_
  refine z_iload_n (pc := 7) dX10_book_7 rfl rfl ?_
  refine z_iload_n (pc := 8) dX10_book_8 rfl rfl ?_
  refine z_iload_n (pc := 9) dX10_book_9 rfl rfl ?_
  refine z_callV (pc := 10) (c_X10_lists hM hV (by unfold zml; omega)) dX10_book_10 l_RX10_269 m_MX10_lists n_MX10_lists e_MX10_lists rfl (by omega) (by assumption) rfl rfl (Nat.le_of_ble_eq_true rfl) ?_
  rintro _ _ _ (hp)
  obtain ⟨x9, e9⟩ := flist_i (S := S) (m := 6) (o := 65) (most := 8) (i := i) (j := j) (v := v)
  obtain rfl := hp.1.trans e9
  try dsimp only [zov, Option.toList, List.cons_append, List.nil_append]
  refine z_iret (pc := 13) dX10_book_13 rfl ?_
  exact hp
theorem zfo1_y {n w : Nat → Nat} {o f k : Nat} (h : w (n (o + k) / 100) = n (o + k) % 100) : zfo1 n w o (f + 1) k = zfo1 n w o f (k + 1) := by rw [zfo1, if_pos h]
theorem zfo1_n {n w : Nat → Nat} {o f k : Nat} (h : ¬ w (n (o + k) / 100) = n (o + k) % 100) : zfo1 n w o (f + 1) k = nI k := by rw [zfo1, if_neg h]
set_option maxHeartbeats 2000000 in
set_option maxRecDepth 20000 in
theorem l_X10_firstOtherwise {lay : List zL} {Q : Value → zI → zJ → Prop} {n w : Nat → Nat} {d m o most : Nat} {I : zI} {J : zJ} (hM : kM lay) (hW : vW I n) (hB : bS n) (hm : zml m o most) (hc : n m ≤ most) (hl : ∀ k, k < n m → zls1 n (n (o + k))) (hag : zagr I 89 n w 9) : ∀ (f k : Nat), k + f = n m → Q (.int (zfo1 n w o f k)) I J → Z lay MX10_firstOtherwise d 2 [.ref 79, .int (nI m), .int (nI o), .int (nI k)] [] I J Q := by
  obtain ⟨mo, m80, m81, m82, m83, m84, m85, m86, m87, m88, m89, m90, m91, m92, m93, m94, m95, m96⟩ := id hM
  have hwv := hW
  obtain ⟨b1, b2, b3, b4, b5, b6, b7, b8⟩ := id hB
  have hmb : m < 7 ∧ 4 ≤ m ∧ most ≤ 8 ∧ o + most ≤ 73 ∧ 52 ≤ o := (by
    unfold zml at hm
    rcases hm with ⟨rfl, rfl, rfl⟩ | ⟨rfl, rfl, rfl⟩ <;> omega)
  intro f
  induction f with
  | zero =>
    intro k hk hq
    obtain rfl : k = n m := (by omega)
    refine z_iload_n (pc := 2) dX10_firstOtherwise_2 rfl rfl ?_
    refine z_aload_n (pc := 3) dX10_firstOtherwise_3 rfl rfl ?_
    refine z_getR (pc := 4) dX10_firstOtherwise_4 f_RX10_11 (by assumption) rfl ?_
    refine z_iload_n (pc := 7) dX10_firstOtherwise_7 rfl rfl ?_
    refine z_ialoadv (pc := 8) dX10_firstOtherwise_8 (by assumption) (by with_reducible rfl) (by omega) (by decide) (by first | assumption | exact hW _ (by omega) | rfl) ?_
    first | refine z_icmp_geN (pc := 9) (tgt := 50) (by with_reducible rfl) (by with_reducible rfl) dX10_firstOtherwise_9 (by decide) (by omega) (by omega) (fun hb9 => ?_) (fun hb9 => absurd hb9 (by omega)) | refine z_icmp_ge (pc := 9) (tgt := 50) dX10_firstOtherwise_9 (by decide) (fun hb9 => ?_) (fun hb9 => absurd hb9 (by omega))
    · skip
      refine z_bipush (pc := 50) (v := -5) dX10_firstOtherwise_50 (by decide) ?_
      refine z_iret (pc := 52) dX10_firstOtherwise_52 rfl ?_
      exact hq
  | succ f ih =>
    intro k hk hq
    have hz := hl k (by omega)
    unfold zls1 at hz
    have hg := hag (n (o + k) / 100) (by omega) hz.1 hz.2.1
    have hg1 := hg.1
    have hg2 := hg.2
    refine z_iload_n (pc := 2) dX10_firstOtherwise_2 rfl rfl ?_
    refine z_aload_n (pc := 3) dX10_firstOtherwise_3 rfl rfl ?_
    refine z_getR (pc := 4) dX10_firstOtherwise_4 f_RX10_11 (by assumption) rfl ?_
    refine z_iload_n (pc := 7) dX10_firstOtherwise_7 rfl rfl ?_
    refine z_ialoadv (pc := 8) dX10_firstOtherwise_8 (by assumption) (by with_reducible rfl) (by omega) (by decide) (by first | assumption | exact hW _ (by omega) | exact hg1 | rfl) ?_
    first | refine z_icmp_geN (pc := 9) (tgt := 50) (by with_reducible rfl) (by with_reducible rfl) dX10_firstOtherwise_9 (by decide) (by omega) (by omega) (fun hb9 => absurd hb9 (by omega)) (fun hb9 => ?_) | refine z_icmp_ge (pc := 9) (tgt := 50) dX10_firstOtherwise_9 (by decide) (fun hb9 => absurd hb9 (by omega)) (fun hb9 => ?_)
    · skip
      refine z_aload_n (pc := 12) dX10_firstOtherwise_12 rfl rfl ?_
      refine z_getR (pc := 13) dX10_firstOtherwise_13 f_RX10_42 (by assumption) rfl ?_
      refine z_aload_n (pc := 16) dX10_firstOtherwise_16 rfl rfl ?_
      refine z_getR (pc := 17) dX10_firstOtherwise_17 f_RX10_11 (by assumption) rfl ?_
      refine z_iload_n (pc := 20) dX10_firstOtherwise_20 rfl rfl ?_
      refine z_iload_n (pc := 21) dX10_firstOtherwise_21 rfl rfl ?_
      first | refine z_iaddN (pc := 22) (by with_reducible rfl) (by with_reducible rfl) dX10_firstOtherwise_22 ?_ | refine z_iadd (pc := 22) dX10_firstOtherwise_22 ?_
      refine z_ialoadv (pc := 23) dX10_firstOtherwise_23 (by assumption) (by with_reducible rfl) (by omega) (by decide) (by first | assumption | exact hW _ (by omega) | exact hg1 | rfl) ?_
      refine z_bipush (pc := 24) (v := nI 100) dX10_firstOtherwise_24 (by decide) ?_
      refine z_idivN (pc := 26) (by with_reducible rfl) (by with_reducible rfl) dX10_firstOtherwise_26 (by omega) (by omega) (by omega) ?_
      refine z_ialoadv (pc := 27) dX10_firstOtherwise_27 (by assumption) (by with_reducible rfl) (by omega) (by decide) (by first | assumption | exact hW _ (by omega) | exact hg1 | rfl) ?_
      refine z_aload_n (pc := 28) dX10_firstOtherwise_28 rfl rfl ?_
      refine z_getR (pc := 29) dX10_firstOtherwise_29 f_RX10_11 (by assumption) rfl ?_
      refine z_iload_n (pc := 32) dX10_firstOtherwise_32 rfl rfl ?_
      refine z_iload_n (pc := 33) dX10_firstOtherwise_33 rfl rfl ?_
      first | refine z_iaddN (pc := 34) (by with_reducible rfl) (by with_reducible rfl) dX10_firstOtherwise_34 ?_ | refine z_iadd (pc := 34) dX10_firstOtherwise_34 ?_
      refine z_ialoadv (pc := 35) dX10_firstOtherwise_35 (by assumption) (by with_reducible rfl) (by omega) (by decide) (by first | assumption | exact hW _ (by omega) | exact hg1 | rfl) ?_
      refine z_bipush (pc := 36) (v := nI 100) dX10_firstOtherwise_36 (by decide) ?_
      refine z_iremN (pc := 38) (by with_reducible rfl) (by with_reducible rfl) dX10_firstOtherwise_38 (by omega) (by omega) (by omega) ?_
      first | refine z_icmp_eqN (pc := 39) (tgt := 44) (by with_reducible rfl) (by with_reducible rfl) dX10_firstOtherwise_39 (by decide) (by omega) (by omega) (fun hb39 => ?_) (fun hb39 => ?_) | refine z_icmp_eq (pc := 39) (tgt := 44) dX10_firstOtherwise_39 (by decide) (fun hb39 => ?_) (fun hb39 => ?_)
      · skip
        first | refine z_iincN (pc := 44) (c := 1) dX10_firstOtherwise_44 rfl (by with_reducible rfl) (by decide) (by decide) rfl ?_ | refine z_iinc (pc := 44) dX10_firstOtherwise_44 rfl rfl (by decide) rfl ?_
        try dsimp only [zst1, zst2, zk]
        refine z_goto (pc := 47) (tgt := 2) dX10_firstOtherwise_47 (by decide) ?_
        exact ih (k + 1) (by omega) (by rw [zfo1_y hb39] at hq; exact hq)
      · skip
        refine z_iload_n (pc := 42) dX10_firstOtherwise_42 rfl rfl ?_
        refine z_iret (pc := 43) dX10_firstOtherwise_43 rfl ?_
        rw [zfo1_n hb39] at hq
        exact hq
set_option maxHeartbeats 2000000 in
set_option maxRecDepth 20000 in
theorem c_X10_firstOtherwise {lay : List zL} {I : zI} {J : zJ} {n w : Nat → Nat} {m o most : Nat} (hM : kM lay) (hW : vW I n) (hB : bS n) (hm : zml m o most) (hc : n m ≤ most) (hl : ∀ k, k < n m → zls1 n (n (o + k))) (hag : zagr I 89 n w 9) : zMet lay MX10_firstOtherwise 0 [.ref 79, .int (nI m), .int (nI o)] I J (fun r I' J' => r = .int (zfo1 n w o (n m) 0) ∧ I = I' ∧ J = J') := by
  refine zMet_of (t := MX10_firstOtherwise) (ls := [.ref 79, .int (nI m), .int (nI o), .null]) (by decide +kernel) (Nat.le_of_ble_eq_true rfl) rfl ?_
  refine z_iconst (pc := 0) (v := nI 0) dX10_firstOtherwise_0 (by decide) ?_
  refine z_istore_n (pc := 1) dX10_firstOtherwise_1 rfl (by decide) rfl ?_
  try dsimp only [zst1, zst2, zk]
  exact l_X10_firstOtherwise hM hW hB hm hc hl hag (n m) 0 (Nat.zero_add _) ⟨rfl, rfl, rfl⟩
set_option maxHeartbeats 2000000 in
set_option maxRecDepth 20000 in
theorem c_X10_looked {lay : List zL} {I : zI} {J : zJ} {S : zS} (hM : kM lay) (hV : vM I J S) : zMet lay MX10_looked 17 [.ref 79] I J (fun r I' J' => zPM I J (flooked S) r I' J') := by
  refine zMet_of (t := MX10_looked) (ls := [.ref 79]) (by decide +kernel) (Nat.le_of_ble_eq_true rfl) rfl ?_
  obtain ⟨mo, m80, m81, m82, m83, m84, m85, m86, m87, m88, m89, m90, m91, m92, m93, m94, m95, m96⟩ := id hM
  have hW : vW I S.n := hV.1.1
  have hb := hV.1.2.1
  have hG := hV.1.2.2
  have hB := hb.1
  have hT := hb.2.1
  obtain ⟨b1, b2, b3, b4, b5, b6, b7, b8⟩ := id hB
  refine z_aload_n (pc := 0) dX10_looked_0 rfl rfl ?_
  refine z_callV (pc := 1) (c_X10_isRounded hM hW hB hT hG) dX10_looked_1 l_RX10_253 m_MX10_isRounded n_MX10_isRounded e_MX10_isRounded rfl (by omega) (by assumption) rfl rfl (Nat.le_of_ble_eq_true rfl) ?_
  rintro _ _ _ ⟨⟨rfl, w9, hr, hag⟩ | ⟨rfl, hr⟩, hf, hj⟩
  · skip
    try dsimp only [zov, Option.toList, List.cons_append, List.nil_append]
    first | refine z_if_eqN (pc := 4) (tgt := 18) (by with_reducible rfl) dX10_looked_4 (by decide) (by omega) (fun hb4 => absurd hb4 (by decide)) (fun hb4 => ?_) | refine z_if_eq (pc := 4) (tgt := 18) dX10_looked_4 (by decide) (fun hb4 => absurd hb4 (by decide)) (fun hb4 => ?_)
    · skip
      refine z_aload_n (pc := 7) dX10_looked_7 rfl rfl ?_
      refine z_bipush (pc := 8) (v := nI 6) dX10_looked_8 (by decide) ?_
      refine z_bipush (pc := 10) (v := nI 65) dX10_looked_10 (by decide) ?_
      refine z_callV (pc := 12) (c_X10_firstOtherwise (most := 8) hM (vW_to hW (fun y => hf 80 y (by omega) (by omega) (by omega) (by omega))) hB (by unfold zml; omega) hb.2.2.1.2.2 hb.2.2.2.2.2 hag) dX10_looked_12 l_RX10_279 m_MX10_firstOtherwise n_MX10_firstOtherwise e_MX10_firstOtherwise rfl (by omega) (by assumption) rfl rfl (Nat.le_of_ble_eq_true rfl) ?_
      rintro _ _ _ (⟨rfl, rfl, rfl⟩)
      try dsimp only [zov, Option.toList, List.cons_append, List.nil_append]
      refine z_goto (pc := 15) (tgt := 20) dX10_looked_15 (by decide) ?_
      refine z_iret (pc := 20) dX10_looked_20 rfl ?_
      exact zPM_keep hV (zmR_m hf) (zw2_m hj) (by rw [flooked, hr])
  · skip
    try dsimp only [zov, Option.toList, List.cons_append, List.nil_append]
    first | refine z_if_eqN (pc := 4) (tgt := 18) (by with_reducible rfl) dX10_looked_4 (by decide) (by omega) (fun hb4 => ?_) (fun hb4 => absurd hb4 (by decide)) | refine z_if_eq (pc := 4) (tgt := 18) dX10_looked_4 (by decide) (fun hb4 => ?_) (fun hb4 => absurd hb4 (by decide))
    · skip
      refine z_bipush (pc := 18) (v := -6) dX10_looked_18 (by decide) ?_
      refine z_iret (pc := 20) dX10_looked_20 rfl ?_
      exact zPM_keep hV (zmR_m hf) (zw2_m hj) (by rw [flooked, hr])
set_option maxHeartbeats 2000000 in
set_option maxRecDepth 20000 in
theorem c_X10_keeps {lay : List zL} {I : zI} {J : zJ} (hM : kM lay) : zMet lay MX10_keeps 1 [.ref 79] I J (fun r I' J' => r = .null ∧ I' = zcp I 80 0 82 0 73 ∧ J = J') := by
  refine zMet_of (t := MX10_keeps) (ls := [.ref 79]) (by decide +kernel) (Nat.le_of_ble_eq_true rfl) rfl ?_
  obtain ⟨mo, m80, m81, m82, m83, m84, m85, m86, m87, m88, m89, m90, m91, m92, m93, m94, m95, m96⟩ := id hM
  refine z_aload_n (pc := 0) dX10_keeps_0 rfl rfl ?_
  refine z_getR (pc := 1) dX10_keeps_1 f_RX10_11 (by assumption) rfl ?_
  refine z_iconst (pc := 4) (v := nI 0) dX10_keeps_4 (by decide) ?_
  refine z_aload_n (pc := 5) dX10_keeps_5 rfl rfl ?_
  refine z_getR (pc := 6) dX10_keeps_6 f_RX10_18 (by assumption) rfl ?_
  refine z_iconst (pc := 9) (v := nI 0) dX10_keeps_9 (by decide) ?_
  refine z_bipush (pc := 10) (v := nI 73) dX10_keeps_10 (by decide) ?_
  first | refine z_copyI (pc := 12) dX10_keeps_12 lc_RX10_177 (by assumption) (by assumption) rfl rfl rfl (by omega) (by omega) (by decide) (by decide) (by omega) (Nat.le_of_ble_eq_true rfl) ?_ | refine z_copyJ (pc := 12) dX10_keeps_12 lc_RX10_177 (by assumption) (by assumption) rfl rfl rfl (by omega) (by omega) (by decide) (by decide) (by omega) (Nat.le_of_ble_eq_true rfl) ?_
  refine z_vret (pc := 15) dX10_keeps_15 rfl ?_
  exact ⟨rfl, rfl, rfl⟩
set_option maxHeartbeats 2000000 in
set_option maxRecDepth 20000 in
theorem c_X10_laysBack {lay : List zL} {I : zI} {J : zJ} (hM : kM lay) : zMet lay MX10_laysBack 1 [.ref 79] I J (fun r I' J' => r = .null ∧ I' = zcp I 82 0 80 0 73 ∧ J = J') := by
  refine zMet_of (t := MX10_laysBack) (ls := [.ref 79]) (by decide +kernel) (Nat.le_of_ble_eq_true rfl) rfl ?_
  obtain ⟨mo, m80, m81, m82, m83, m84, m85, m86, m87, m88, m89, m90, m91, m92, m93, m94, m95, m96⟩ := id hM
  refine z_aload_n (pc := 0) dX10_laysBack_0 rfl rfl ?_
  refine z_getR (pc := 1) dX10_laysBack_1 f_RX10_18 (by assumption) rfl ?_
  refine z_iconst (pc := 4) (v := nI 0) dX10_laysBack_4 (by decide) ?_
  refine z_aload_n (pc := 5) dX10_laysBack_5 rfl rfl ?_
  refine z_getR (pc := 6) dX10_laysBack_6 f_RX10_11 (by assumption) rfl ?_
  refine z_iconst (pc := 9) (v := nI 0) dX10_laysBack_9 (by decide) ?_
  refine z_bipush (pc := 10) (v := nI 73) dX10_laysBack_10 (by decide) ?_
  first | refine z_copyI (pc := 12) dX10_laysBack_12 lc_RX10_177 (by assumption) (by assumption) rfl rfl rfl (by omega) (by omega) (by decide) (by decide) (by omega) (Nat.le_of_ble_eq_true rfl) ?_ | refine z_copyJ (pc := 12) dX10_laysBack_12 lc_RX10_177 (by assumption) (by assumption) rfl rfl rfl (by omega) (by omega) (by decide) (by decide) (by omega) (Nat.le_of_ble_eq_true rfl) ?_
  refine z_vret (pc := 15) dX10_laysBack_15 rfl ?_
  exact ⟨rfl, rfl, rfl⟩
/-- alike but for a count and the table -/
def zalb (n m : Nat → Nat) (k : Nat) : Prop := ∀ j, j ≠ 3 → j ≠ 7 + k → (j < 34 ∨ 52 ≤ j) → m j = n j
theorem zalb_tk {n m : Nat → Nat} {k v : Nat} (hk : k < 9) (h : zalb n m k) : ztk (zset1 m (7 + k) v) = ztk (zset1 n (7 + k) v) := by
  funext j
  unfold ztk
  by_cases q3 : j = 3
  · rw [if_pos q3, if_pos q3]
  rw [if_neg q3, if_neg q3]
  by_cases q4 : 34 ≤ j ∧ j < 43
  · rw [if_pos q4, if_pos q4]
    by_cases e : j - 27 = 7 + k
    · rw [e, zset1_s, zset1_s]
    · rw [zset1_o e, zset1_o e]; exact h _ (by omega) e (by omega)
  rw [if_neg q4, if_neg q4]
  by_cases q5 : 43 ≤ j ∧ j < 52
  · rw [if_pos q5, if_pos q5]
  rw [if_neg q5, if_neg q5]
  by_cases e : j = 7 + k
  · rw [e, zset1_s, zset1_s]
  · rw [zset1_o e, zset1_o e]; exact h _ q3 e (by omega)
theorem zrb_al {n m : Nat → Nat} {k v : Nat} (hk : k < 9) (h : zalb n m k) : zrb m k v = zrb n k v := by
  unfold zrb
  rw [zalb_tk hk h]
def zmB (I I' : zI) : Prop := ∀ x y, x ≠ 80 → ¬ (85 ≤ x ∧ x ≤ 90) → (x = 79 → y ≠ 16 ∧ y ≠ 17) → I' x y = I x y
theorem zmB_r (I : zI) : zmB I I := fun _ _ _ _ _ => rfl
theorem zmB_t {I I1 I2 : zI} (h : zmB I I1) (h2 : zmB I1 I2) : zmB I I2 := fun x y q1 q2 q3 => (h2 x y q1 q2 q3).trans (h x y q1 q2 q3)
theorem zalb_r (n : Nat → Nat) (k : Nat) : zalb n n k := fun _ _ _ _ => rfl
theorem zalb_1 {n n' : Nat → Nat} {k v : Nat} (h : zalb n n' k) : zalb n (ztk (zset1 n' (7 + k) v)) k := fun j h3 h7 hj => by
  rw [ztk_o (by omega), zset1_o h7]; exact h j h3 h7 hj
theorem zalb_2 {n m m' : Nat → Nat} {k : Nat} (h : zalb n m k) (h2 : zgr m m') : zalb n m' k := fun j h3 h7 hj => (h2.1 j h3 hj).trans (h j h3 h7 hj)
set_option maxHeartbeats 2000000 in
set_option maxRecDepth 20000 in
theorem c_X10_isRoundedBy {lay : List zL} {I : zI} {J : zJ} {n n' : Nat → Nat} (hM : kM lay) (hW : vW I n') {k v : Nat} (hk : k < 9) (hv : v ≤ 20) (hal : zalb n n' k) (hb : bN n') : zMet lay MX10_isRoundedBy 17 [.ref 79, .int (nI k), .int (nI v)] I J (fun r I' J' => ((r = .int (nI 1) ∧ ∃ w, zrb n k v = some w ∧ zagr I' 89 n w 9) ∨ (r = .int (nI 0) ∧ zrb n k v = none)) ∧ (∃ m, vW I' m ∧ zalb n m k ∧ bN m) ∧ zmB I I' ∧ zw2 J J') := by
  refine zMet_of (t := MX10_isRoundedBy) (ls := [.ref 79, .int (nI k), .int (nI v)]) (by decide +kernel) (Nat.le_of_ble_eq_true rfl) rfl ?_
  obtain ⟨mo, m80, m81, m82, m83, m84, m85, m86, m87, m88, m89, m90, m91, m92, m93, m94, m95, m96⟩ := id hM
  have hb1 := ztk_bN (zset1_bN hb (zset1_bSc hb.1 hk hv) (by omega) (by omega))
  have hg1 : bG (ztk (zset1 n' (7 + k) v)) := ztk_bG
  have hal1 := zalb_1 (v := v) hal
  have h0 : ∀ m, zalb n m k → n 0 = m 0 ∧ n 1 = m 1 := fun m h => ⟨(h 0 (by omega) (by omega) (by omega)).symm, (h 1 (by omega) (by omega) (by omega)).symm⟩
  rw [← zrb_al hk hal]
  refine z_aload_n (pc := 0) dX10_isRoundedBy_0 rfl rfl ?_
  refine z_getR (pc := 1) dX10_isRoundedBy_1 f_RX10_11 (by assumption) rfl ?_
  refine z_bipush (pc := 4) (v := nI 7) dX10_isRoundedBy_4 (by decide) ?_
  refine z_iload_n (pc := 6) dX10_isRoundedBy_6 rfl rfl ?_
  first | refine z_iaddN (pc := 7) (by with_reducible rfl) (by with_reducible rfl) dX10_isRoundedBy_7 ?_ | refine z_iadd (pc := 7) dX10_isRoundedBy_7 ?_
  refine z_iload_n (pc := 8) dX10_isRoundedBy_8 rfl rfl ?_
  refine z_iastore (pc := 9) dX10_isRoundedBy_9 (by assumption) (by with_reducible rfl) (by omega) (by decide) ?_
  refine z_aload_n (pc := 10) dX10_isRoundedBy_10 rfl rfl ?_
  refine z_callV (pc := 11) (c_X10_begin hM (vW_up hW)) dX10_isRoundedBy_11 l_RX10_88 m_MX10_begin n_MX10_begin e_MX10_begin rfl (by omega) (by assumption) rfl rfl (Nat.le_of_ble_eq_true rfl) ?_
  rintro _ _ _ (⟨rfl, hv1, hi1, rfl⟩)
  try dsimp only [zov, Option.toList, List.cons_append, List.nil_append]
  refine z_pop (pc := 14) dX10_isRoundedBy_14 rfl ?_
  refine z_aload_n (pc := 15) dX10_isRoundedBy_15 rfl rfl ?_
  refine z_callV (pc := 16) (c_X10_goesRound hM hv1 hb1.1 hb1.2.1 hg1) dX10_isRoundedBy_16 l_RX10_183 m_MX10_goesRound n_MX10_goesRound e_MX10_goesRound rfl (by omega) (by assumption) rfl rfl (Nat.le_of_ble_eq_true rfl) ?_
  rintro _ _ _ ⟨⟨rfl, m, hm, hvm, hgr⟩ | ⟨rfl, hm, hvm⟩, hf4, hj4⟩
  · have hbm := zgr_bN hb1 hgr; have hgm := hgr.2.2; have halm := zalb_2 hal1 hgr
    try dsimp only [zov, Option.toList, List.cons_append, List.nil_append]
    refine z_pop (pc := 19) dX10_isRoundedBy_19 rfl ?_
    refine z_aload_n (pc := 20) dX10_isRoundedBy_20 rfl rfl ?_
    refine z_callV (pc := 21) (c_X10_isRounded hM hvm hbm.1 hbm.2.1 hgm) dX10_isRoundedBy_21 l_RX10_253 m_MX10_isRounded n_MX10_isRounded e_MX10_isRounded rfl (by omega) (by assumption) rfl rfl (Nat.le_of_ble_eq_true rfl) ?_
    rintro _ _ _ ⟨⟨rfl, w9, hr, hag⟩ | ⟨rfl, hr⟩, hfR, hjR⟩
    · skip
      try dsimp only [zov, Option.toList, List.cons_append, List.nil_append]
      refine z_zret (pc := 24) dX10_isRoundedBy_24 rfl (by first | decide | assumption) ?_
      have hvv := vW_to hvm (fun y => hfR 80 y (by omega) (by omega) (by omega) (by omega))
      have hfr : zmB I _ := (fun x y q1 q2 q3 => (hfR x y (by omega) (by omega) (by omega) q3).trans ((hf4 x y q1 (by omega) (by omega) (by omega)).trans ((hi1 x y q1).trans (zup_n _ _ (by omega)))))
      have hjj := zw2_t hj4 hjR
      first
      | exact ⟨Or.inl ⟨rfl, w9, by first | (rw [zrb_y hm]; exact hr) | (rw [zrb_n hm]; exact hr), zagr_n hag (h0 _ halm).1 (h0 _ halm).2⟩, ⟨_, hvv, halm, hbm⟩, hfr, hjj⟩
      | exact ⟨Or.inr ⟨rfl, by first | (rw [zrb_y hm]; exact hr) | (rw [zrb_n hm]; exact hr)⟩, ⟨_, hvv, halm, hbm⟩, hfr, hjj⟩
      | fail
    · skip
      try dsimp only [zov, Option.toList, List.cons_append, List.nil_append]
      refine z_zret (pc := 24) dX10_isRoundedBy_24 rfl (by first | decide | assumption) ?_
      have hvv := vW_to hvm (fun y => hfR 80 y (by omega) (by omega) (by omega) (by omega))
      have hfr : zmB I _ := (fun x y q1 q2 q3 => (hfR x y (by omega) (by omega) (by omega) q3).trans ((hf4 x y q1 (by omega) (by omega) (by omega)).trans ((hi1 x y q1).trans (zup_n _ _ (by omega)))))
      have hjj := zw2_t hj4 hjR
      first
      | exact ⟨Or.inl ⟨rfl, w9, by first | (rw [zrb_y hm]; exact hr) | (rw [zrb_n hm]; exact hr), zagr_n hag (h0 _ halm).1 (h0 _ halm).2⟩, ⟨_, hvv, halm, hbm⟩, hfr, hjj⟩
      | exact ⟨Or.inr ⟨rfl, by first | (rw [zrb_y hm]; exact hr) | (rw [zrb_n hm]; exact hr)⟩, ⟨_, hvv, halm, hbm⟩, hfr, hjj⟩
      | fail
  · have hbm := hb1; have hgm := hg1; have halm := hal1
    try dsimp only [zov, Option.toList, List.cons_append, List.nil_append]
    refine z_pop (pc := 19) dX10_isRoundedBy_19 rfl ?_
    refine z_aload_n (pc := 20) dX10_isRoundedBy_20 rfl rfl ?_
    refine z_callV (pc := 21) (c_X10_isRounded hM hvm hbm.1 hbm.2.1 hgm) dX10_isRoundedBy_21 l_RX10_253 m_MX10_isRounded n_MX10_isRounded e_MX10_isRounded rfl (by omega) (by assumption) rfl rfl (Nat.le_of_ble_eq_true rfl) ?_
    rintro _ _ _ ⟨⟨rfl, w9, hr, hag⟩ | ⟨rfl, hr⟩, hfR, hjR⟩
    · skip
      try dsimp only [zov, Option.toList, List.cons_append, List.nil_append]
      refine z_zret (pc := 24) dX10_isRoundedBy_24 rfl (by first | decide | assumption) ?_
      have hvv := vW_to hvm (fun y => hfR 80 y (by omega) (by omega) (by omega) (by omega))
      have hfr : zmB I _ := (fun x y q1 q2 q3 => (hfR x y (by omega) (by omega) (by omega) q3).trans ((hf4 x y q1 (by omega) (by omega) (by omega)).trans ((hi1 x y q1).trans (zup_n _ _ (by omega)))))
      have hjj := zw2_t hj4 hjR
      first
      | exact ⟨Or.inl ⟨rfl, w9, by first | (rw [zrb_y hm]; exact hr) | (rw [zrb_n hm]; exact hr), zagr_n hag (h0 _ halm).1 (h0 _ halm).2⟩, ⟨_, hvv, halm, hbm⟩, hfr, hjj⟩
      | exact ⟨Or.inr ⟨rfl, by first | (rw [zrb_y hm]; exact hr) | (rw [zrb_n hm]; exact hr)⟩, ⟨_, hvv, halm, hbm⟩, hfr, hjj⟩
      | fail
    · skip
      try dsimp only [zov, Option.toList, List.cons_append, List.nil_append]
      refine z_zret (pc := 24) dX10_isRoundedBy_24 rfl (by first | decide | assumption) ?_
      have hvv := vW_to hvm (fun y => hfR 80 y (by omega) (by omega) (by omega) (by omega))
      have hfr : zmB I _ := (fun x y q1 q2 q3 => (hfR x y (by omega) (by omega) (by omega) q3).trans ((hf4 x y q1 (by omega) (by omega) (by omega)).trans ((hi1 x y q1).trans (zup_n _ _ (by omega)))))
      have hjj := zw2_t hj4 hjR
      first
      | exact ⟨Or.inl ⟨rfl, w9, by first | (rw [zrb_y hm]; exact hr) | (rw [zrb_n hm]; exact hr), zagr_n hag (h0 _ halm).1 (h0 _ halm).2⟩, ⟨_, hvv, halm, hbm⟩, hfr, hjj⟩
      | exact ⟨Or.inr ⟨rfl, by first | (rw [zrb_y hm]; exact hr) | (rw [zrb_n hm]; exact hr)⟩, ⟨_, hvv, halm, hbm⟩, hfr, hjj⟩
      | fail
theorem zfi_y1 {n : Nat → Nat} {k : Nat} : ∀ (f v : Nat) (c : Nat) (x y : Int32), zfi n k f v (c + 1, x) = ((zfi n k f v (0, y)).1 + (c + 1), x)
  | 0, v, c, x, y => by
    unfold zfi
    rw [Nat.zero_add]
  | f + 1, v, c, x, y => by
    cases e : zfi1 n k v with
    | true =>
      rw [zfi_1 e, zfi_1 e, if_neg (by omega), if_pos rfl]
      dsimp only
      rw [zfi_y1 f (v + 1) (c + 1) x y]
      have e1 := zfi_y1 (n := n) (k := k) f (v + 1) 0 (nI v) y
      rw [e1]
      exact congrArg (fun z => (z, x)) (by omega)
    | false =>
      rw [zfi_0 e, zfi_0 e]
      exact zfi_y1 f (v + 1) c x y
theorem zfi_up {n : Nat → Nat} {k f v : Nat} (h : zfi1 n k v = true) : zfi n k (f + 1) v (0, -5) = ((zfi n k f (v + 1) (0, -5)).1 + 1, nI v) := by
  rw [zfi_1 h, if_pos rfl]
  exact zfi_y1 f (v + 1) 0 (nI v) (-5)
theorem zfo1_cg {n m w : Nat → Nat} {o : Nat} : ∀ (f k : Nat), (∀ i, k ≤ i → i < k + f → m (o + i) = n (o + i)) → zfo1 m w o f k = zfo1 n w o f k
  | 0, _, _ => rfl
  | f + 1, k, h => by
    unfold zfo1
    rw [h k (by omega) (by omega), zfo1_cg f (k + 1) (fun i h1 h2 => h i (by omega) (by omega))]
theorem vW_lay {I0 I : zI} {n : Nat → Nat} (h : ∀ y, y < 73 → I 82 y = nI (n y)) : vW (zcp I 82 0 80 0 73) n := fun k hk => by
  rw [zcp_b]
  dsimp only
  rw [if_pos (by omega), h _ (by omega), show 0 + (k - 0) = k by omega]
theorem vW_kp {I : zI} {n : Nat → Nat} (h : vW I n) : ∀ y, y < 73 → zcp I 80 0 82 0 73 82 y = nI (n y) := fun y hy => by
  rw [zcp_b]
  dsimp only
  rw [if_pos (by omega), h _ (by omega), show 0 + (y - 0) = y by omega]
set_option maxHeartbeats 2000000 in
set_option maxRecDepth 20000 in
theorem l_X10_fitting {lay : List zL} {Q : Value → zI → zJ → Prop} {n : Nat → Nat} {d a b q : Nat} {I0 : zI} {J0 : zJ} (hM : kM lay) (hb0 : bN n) (ha : a < n 0) (hbb : b < n 1) : ∀ (v c : Nat) (x : Int32) (I : zI) (J : zJ), v ≤ 20 → (c, x) = zfi n (3 * a + b) (20 - v) (v + 1) (0, -5) → (∃ m, vW I m ∧ zalb n m (3 * a + b) ∧ bN m) → zmB I0 I → zw2 J0 J → (∀ c x I' J', (c, x) = zfi n (3 * a + b) 21 0 (0, -5) → zmB I0 I' → zw2 J0 J' → Z lay MX10_fitting (d + 18) 80 [.ref 79, .int (nI a), .int (nI b), .int (nI q), .int (nI c), .int x, .int (-1)] [] I' J' Q) → Z lay MX10_fitting (d + 18) 36 [.ref 79, .int (nI a), .int (nI b), .int (nI q), .int (nI c), .int x, .int (nI v)] [] I J Q := by
  obtain ⟨b1, b2, b3, b4, b5, b6, b7, b8⟩ := id hb0.1
  have hk : 3 * a + b < 9 := (by omega)
  have st74 : ∀ (v c : Nat) (x : Int32) (I : zI) (J : zJ), v ≤ 20 → (∀ v', v = v' + 1 → Z lay MX10_fitting (d + 18) 36 [.ref 79, .int (nI a), .int (nI b), .int (nI q), .int (nI c), .int x, .int (nI v')] [] I J Q) → (v = 0 → Z lay MX10_fitting (d + 18) 80 [.ref 79, .int (nI a), .int (nI b), .int (nI q), .int (nI c), .int x, .int (-1)] [] I J Q) → Z lay MX10_fitting (d + 18) 74 [.ref 79, .int (nI a), .int (nI b), .int (nI q), .int (nI c), .int x, .int (nI v)] [] I J Q := (by
    intro v c x I J hv h1 h2
    cases v with
    | zero =>
      refine z_iinc (pc := 74) (v := -1) dX10_fitting_74 rfl (by decide) (by decide) rfl ?_
      try dsimp only [zst1, zst2, zk]
      refine z_goto (pc := 77) (tgt := 36) dX10_fitting_77 (by decide) ?_
      refine z_iload (pc := 36) dX10_fitting_36 rfl ?_
      exact z_if_lt (pc := 38) (tgt := 80) dX10_fitting_38 (by decide) (fun _ => h2 rfl) (fun h => absurd (by decide) h)
    | succ v =>
      refine z_iinc (pc := 74) (v := nI v) dX10_fitting_74 rfl ((nI_dec (by omega)).trans (by rw [Nat.add_sub_cancel])) (by decide) rfl ?_
      try dsimp only [zst1, zst2, zk]
      exact z_goto (pc := 77) (tgt := 36) dX10_fitting_77 (by decide) (h1 v rfl))
  intro v
  induction v with
  | zero =>
    intro c x I J hv he hS hf hj K
    obtain ⟨m, hW, hal, hbm⟩ := hS
    obtain ⟨mo, m80, m81, m82, m83, m84, m85, m86, m87, m88, m89, m90, m91, m92, m93, m94, m95, m96⟩ := id hM
    refine z_iload (pc := 36) dX10_fitting_36 rfl ?_
    first | refine z_if_ltN (pc := 38) (tgt := 80) (by with_reducible rfl) dX10_fitting_38 (by decide) (by omega) (fun hb38 => absurd hb38 (fun h => h)) (fun hb38 => ?_) | refine z_if_lt (pc := 38) (tgt := 80) dX10_fitting_38 (by decide) (fun hb38 => absurd hb38 (fun h => h)) (fun hb38 => ?_)
    · skip
      refine z_aload_n (pc := 41) dX10_fitting_41 rfl rfl ?_
      refine z_iconst (pc := 42) (v := nI 3) dX10_fitting_42 (by decide) ?_
      refine z_iload_n (pc := 43) dX10_fitting_43 rfl rfl ?_
      first | refine z_imulN (pc := 44) (by with_reducible rfl) (by with_reducible rfl) dX10_fitting_44 ?_ | refine z_imul (pc := 44) dX10_fitting_44 ?_
      refine z_iload_n (pc := 45) dX10_fitting_45 rfl rfl ?_
      first | refine z_iaddN (pc := 46) (by with_reducible rfl) (by with_reducible rfl) dX10_fitting_46 ?_ | refine z_iadd (pc := 46) dX10_fitting_46 ?_
      refine z_iload (pc := 47) dX10_fitting_47 rfl ?_
      refine z_callV (pc := 49) (c_X10_isRoundedBy (n := n) hM hW hk (by omega) hal hbm) dX10_fitting_49 l_RX10_276 m_MX10_isRoundedBy n_MX10_isRoundedBy e_MX10_isRoundedBy rfl (by omega) (by assumption) rfl rfl (Nat.le_of_ble_eq_true rfl) ?_
      rintro _ _ _ ⟨⟨rfl, w9, hr, hag⟩ | ⟨rfl, hr⟩, hS1, hfB, hjB⟩
      · obtain ⟨m1, hW1, hal1, hbm1⟩ := id hS1; have z0 := hal1 0 (by omega) (by omega) (by omega); have z1 := hal1 1 (by omega) (by omega) (by omega); have z4 := hal1 4 (by omega) (by omega) (by omega); have hfo : zfo1 m1 w9 52 (m1 4) 0 = zfo1 n w9 52 (n 4) 0 := (by rw [z4]; exact zfo1_cg _ _ (fun i _ hi => hal1 _ (by omega) (by omega) (by omega)))
        try dsimp only [zov, Option.toList, List.cons_append, List.nil_append]
        first | refine z_if_eqN (pc := 52) (tgt := 74) (by with_reducible rfl) dX10_fitting_52 (by decide) (by omega) (fun hb52 => absurd hb52 (by decide)) (fun hb52 => ?_) | refine z_if_eq (pc := 52) (tgt := 74) dX10_fitting_52 (by decide) (fun hb52 => absurd hb52 (by decide)) (fun hb52 => ?_)
        · skip
          refine z_aload_n (pc := 55) dX10_fitting_55 rfl rfl ?_
          refine z_iconst (pc := 56) (v := nI 4) dX10_fitting_56 (by decide) ?_
          refine z_bipush (pc := 57) (v := nI 52) dX10_fitting_57 (by decide) ?_
          refine z_callV (pc := 59) (c_X10_firstOtherwise (n := m1) (w := w9) (most := 5) hM hW1 hbm1.1 (by unfold zml; omega) hbm1.2.2.1.1 hbm1.2.2.2.1 (zagr_n hag z0 z1)) dX10_fitting_59 l_RX10_279 m_MX10_firstOtherwise n_MX10_firstOtherwise e_MX10_firstOtherwise rfl (by omega) (by assumption) rfl rfl (Nat.le_of_ble_eq_true rfl) ?_
          rintro _ _ _ (⟨rfl, rfl, rfl⟩)
          rw [hfo]
          try dsimp only [zov, Option.toList, List.cons_append, List.nil_append]
          refine z_bipush (pc := 62) (v := -5) dX10_fitting_62 (by decide) ?_
          refine z_icmp_ne (pc := 64) (tgt := 74) dX10_fitting_64 (by decide) (fun hb62 => ?_) (fun hb62 => ?_)
          · skip
            first
            | exact st74 0 _ _ _ _ (by omega) (fun v' e => absurd e (by omega)) (fun _ => K _ _ _ _ (by rw [show (21 : Nat) = 20 + 1 from rfl, zfi_up (zfi1_b hr hb62)]; have he2 : (c, x) = zfi n (3 * a + b) 20 1 (0, -5) := he; rw [← he2]) (zmB_t hf hfB) (zw2_t hj hjB))
            | exact st74 0 _ _ _ _ (by omega) (fun v' e => absurd e (by omega)) (fun _ => K _ _ _ _ (by rw [show (21 : Nat) = 20 + 1 from rfl, zfi_0 (zfi1_c hr hb62)]; exact he) (zmB_t hf hfB) (zw2_t hj hjB))
            | exact st74 0 _ _ _ _ (by omega) (fun v' e => absurd e (by omega)) (fun _ => K _ _ _ _ (by rw [show (21 : Nat) = 20 + 1 from rfl, zfi_0 (zfi1_a hr)]; exact he) (zmB_t hf hfB) (zw2_t hj hjB))
            | fail
          · skip
            first | refine z_iincN (pc := 67) (c := 1) dX10_fitting_67 rfl (by with_reducible rfl) (by decide) (by decide) rfl ?_ | refine z_iinc (pc := 67) dX10_fitting_67 rfl rfl (by decide) rfl ?_
            try dsimp only [zst1, zst2, zk]
            refine z_iload (pc := 70) dX10_fitting_70 rfl ?_
            refine z_istore (pc := 72) dX10_fitting_72 (by decide) rfl ?_
            try dsimp only [zst1, zst2, zk]
            first
            | exact st74 0 _ _ _ _ (by omega) (fun v' e => absurd e (by omega)) (fun _ => K _ _ _ _ (by rw [show (21 : Nat) = 20 + 1 from rfl, zfi_up (zfi1_b hr hb62)]; have he2 : (c, x) = zfi n (3 * a + b) 20 1 (0, -5) := he; rw [← he2]) (zmB_t hf hfB) (zw2_t hj hjB))
            | exact st74 0 _ _ _ _ (by omega) (fun v' e => absurd e (by omega)) (fun _ => K _ _ _ _ (by rw [show (21 : Nat) = 20 + 1 from rfl, zfi_0 (zfi1_c hr hb62)]; exact he) (zmB_t hf hfB) (zw2_t hj hjB))
            | exact st74 0 _ _ _ _ (by omega) (fun v' e => absurd e (by omega)) (fun _ => K _ _ _ _ (by rw [show (21 : Nat) = 20 + 1 from rfl, zfi_0 (zfi1_a hr)]; exact he) (zmB_t hf hfB) (zw2_t hj hjB))
            | fail
      · skip
        try dsimp only [zov, Option.toList, List.cons_append, List.nil_append]
        first | refine z_if_eqN (pc := 52) (tgt := 74) (by with_reducible rfl) dX10_fitting_52 (by decide) (by omega) (fun hb52 => ?_) (fun hb52 => absurd hb52 (by decide)) | refine z_if_eq (pc := 52) (tgt := 74) dX10_fitting_52 (by decide) (fun hb52 => ?_) (fun hb52 => absurd hb52 (by decide))
        · skip
          first
          | exact st74 0 _ _ _ _ (by omega) (fun v' e => absurd e (by omega)) (fun _ => K _ _ _ _ (by rw [show (21 : Nat) = 20 + 1 from rfl, zfi_up (zfi1_b hr hb62)]; have he2 : (c, x) = zfi n (3 * a + b) 20 1 (0, -5) := he; rw [← he2]) (zmB_t hf hfB) (zw2_t hj hjB))
          | exact st74 0 _ _ _ _ (by omega) (fun v' e => absurd e (by omega)) (fun _ => K _ _ _ _ (by rw [show (21 : Nat) = 20 + 1 from rfl, zfi_0 (zfi1_c hr hb62)]; exact he) (zmB_t hf hfB) (zw2_t hj hjB))
          | exact st74 0 _ _ _ _ (by omega) (fun v' e => absurd e (by omega)) (fun _ => K _ _ _ _ (by rw [show (21 : Nat) = 20 + 1 from rfl, zfi_0 (zfi1_a hr)]; exact he) (zmB_t hf hfB) (zw2_t hj hjB))
          | fail
  | succ v ih =>
    intro c x I J hv he hS hf hj K
    obtain ⟨m, hW, hal, hbm⟩ := hS
    obtain ⟨mo, m80, m81, m82, m83, m84, m85, m86, m87, m88, m89, m90, m91, m92, m93, m94, m95, m96⟩ := id hM
    refine z_iload (pc := 36) dX10_fitting_36 rfl ?_
    first | refine z_if_ltN (pc := 38) (tgt := 80) (by with_reducible rfl) dX10_fitting_38 (by decide) (by omega) (fun hb38 => absurd hb38 (fun h => h)) (fun hb38 => ?_) | refine z_if_lt (pc := 38) (tgt := 80) dX10_fitting_38 (by decide) (fun hb38 => absurd hb38 (fun h => h)) (fun hb38 => ?_)
    · skip
      refine z_aload_n (pc := 41) dX10_fitting_41 rfl rfl ?_
      refine z_iconst (pc := 42) (v := nI 3) dX10_fitting_42 (by decide) ?_
      refine z_iload_n (pc := 43) dX10_fitting_43 rfl rfl ?_
      first | refine z_imulN (pc := 44) (by with_reducible rfl) (by with_reducible rfl) dX10_fitting_44 ?_ | refine z_imul (pc := 44) dX10_fitting_44 ?_
      refine z_iload_n (pc := 45) dX10_fitting_45 rfl rfl ?_
      first | refine z_iaddN (pc := 46) (by with_reducible rfl) (by with_reducible rfl) dX10_fitting_46 ?_ | refine z_iadd (pc := 46) dX10_fitting_46 ?_
      refine z_iload (pc := 47) dX10_fitting_47 rfl ?_
      refine z_callV (pc := 49) (c_X10_isRoundedBy (n := n) hM hW hk (by omega) hal hbm) dX10_fitting_49 l_RX10_276 m_MX10_isRoundedBy n_MX10_isRoundedBy e_MX10_isRoundedBy rfl (by omega) (by assumption) rfl rfl (Nat.le_of_ble_eq_true rfl) ?_
      rintro _ _ _ ⟨⟨rfl, w9, hr, hag⟩ | ⟨rfl, hr⟩, hS1, hfB, hjB⟩
      · obtain ⟨m1, hW1, hal1, hbm1⟩ := id hS1; have z0 := hal1 0 (by omega) (by omega) (by omega); have z1 := hal1 1 (by omega) (by omega) (by omega); have z4 := hal1 4 (by omega) (by omega) (by omega); have hfo : zfo1 m1 w9 52 (m1 4) 0 = zfo1 n w9 52 (n 4) 0 := (by rw [z4]; exact zfo1_cg _ _ (fun i _ hi => hal1 _ (by omega) (by omega) (by omega)))
        try dsimp only [zov, Option.toList, List.cons_append, List.nil_append]
        first | refine z_if_eqN (pc := 52) (tgt := 74) (by with_reducible rfl) dX10_fitting_52 (by decide) (by omega) (fun hb52 => absurd hb52 (by decide)) (fun hb52 => ?_) | refine z_if_eq (pc := 52) (tgt := 74) dX10_fitting_52 (by decide) (fun hb52 => absurd hb52 (by decide)) (fun hb52 => ?_)
        · skip
          refine z_aload_n (pc := 55) dX10_fitting_55 rfl rfl ?_
          refine z_iconst (pc := 56) (v := nI 4) dX10_fitting_56 (by decide) ?_
          refine z_bipush (pc := 57) (v := nI 52) dX10_fitting_57 (by decide) ?_
          refine z_callV (pc := 59) (c_X10_firstOtherwise (n := m1) (w := w9) (most := 5) hM hW1 hbm1.1 (by unfold zml; omega) hbm1.2.2.1.1 hbm1.2.2.2.1 (zagr_n hag z0 z1)) dX10_fitting_59 l_RX10_279 m_MX10_firstOtherwise n_MX10_firstOtherwise e_MX10_firstOtherwise rfl (by omega) (by assumption) rfl rfl (Nat.le_of_ble_eq_true rfl) ?_
          rintro _ _ _ (⟨rfl, rfl, rfl⟩)
          rw [hfo]
          try dsimp only [zov, Option.toList, List.cons_append, List.nil_append]
          refine z_bipush (pc := 62) (v := -5) dX10_fitting_62 (by decide) ?_
          refine z_icmp_ne (pc := 64) (tgt := 74) dX10_fitting_64 (by decide) (fun hb62 => ?_) (fun hb62 => ?_)
          · skip
            first
            | exact st74 (v + 1) _ _ _ _ (by omega) (fun v' e => by have e9 : v = v' := Nat.succ.inj e; subst e9; exact ih _ _ _ _ (by omega) (by rw [show 20 - v = (20 - (v + 1)) + 1 by omega, zfi_up (zfi1_b hr hb62), ← he]) hS1 (zmB_t hf hfB) (zw2_t hj hjB) K) (fun e => absurd e (by omega))
            | exact st74 (v + 1) _ _ _ _ (by omega) (fun v' e => by have e9 : v = v' := Nat.succ.inj e; subst e9; exact ih _ _ _ _ (by omega) (by rw [show 20 - v = (20 - (v + 1)) + 1 by omega, zfi_0 (zfi1_c hr hb62)]; exact he) hS1 (zmB_t hf hfB) (zw2_t hj hjB) K) (fun e => absurd e (by omega))
            | exact st74 (v + 1) _ _ _ _ (by omega) (fun v' e => by have e9 : v = v' := Nat.succ.inj e; subst e9; exact ih _ _ _ _ (by omega) (by rw [show 20 - v = (20 - (v + 1)) + 1 by omega, zfi_0 (zfi1_a hr)]; exact he) hS1 (zmB_t hf hfB) (zw2_t hj hjB) K) (fun e => absurd e (by omega))
            | fail
          · skip
            first | refine z_iincN (pc := 67) (c := 1) dX10_fitting_67 rfl (by with_reducible rfl) (by decide) (by decide) rfl ?_ | refine z_iinc (pc := 67) dX10_fitting_67 rfl rfl (by decide) rfl ?_
            try dsimp only [zst1, zst2, zk]
            refine z_iload (pc := 70) dX10_fitting_70 rfl ?_
            refine z_istore (pc := 72) dX10_fitting_72 (by decide) rfl ?_
            try dsimp only [zst1, zst2, zk]
            first
            | exact st74 (v + 1) _ _ _ _ (by omega) (fun v' e => by have e9 : v = v' := Nat.succ.inj e; subst e9; exact ih _ _ _ _ (by omega) (by rw [show 20 - v = (20 - (v + 1)) + 1 by omega, zfi_up (zfi1_b hr hb62), ← he]) hS1 (zmB_t hf hfB) (zw2_t hj hjB) K) (fun e => absurd e (by omega))
            | exact st74 (v + 1) _ _ _ _ (by omega) (fun v' e => by have e9 : v = v' := Nat.succ.inj e; subst e9; exact ih _ _ _ _ (by omega) (by rw [show 20 - v = (20 - (v + 1)) + 1 by omega, zfi_0 (zfi1_c hr hb62)]; exact he) hS1 (zmB_t hf hfB) (zw2_t hj hjB) K) (fun e => absurd e (by omega))
            | exact st74 (v + 1) _ _ _ _ (by omega) (fun v' e => by have e9 : v = v' := Nat.succ.inj e; subst e9; exact ih _ _ _ _ (by omega) (by rw [show 20 - v = (20 - (v + 1)) + 1 by omega, zfi_0 (zfi1_a hr)]; exact he) hS1 (zmB_t hf hfB) (zw2_t hj hjB) K) (fun e => absurd e (by omega))
            | fail
      · skip
        try dsimp only [zov, Option.toList, List.cons_append, List.nil_append]
        first | refine z_if_eqN (pc := 52) (tgt := 74) (by with_reducible rfl) dX10_fitting_52 (by decide) (by omega) (fun hb52 => ?_) (fun hb52 => absurd hb52 (by decide)) | refine z_if_eq (pc := 52) (tgt := 74) dX10_fitting_52 (by decide) (fun hb52 => ?_) (fun hb52 => absurd hb52 (by decide))
        · skip
          first
          | exact st74 (v + 1) _ _ _ _ (by omega) (fun v' e => by have e9 : v = v' := Nat.succ.inj e; subst e9; exact ih _ _ _ _ (by omega) (by rw [show 20 - v = (20 - (v + 1)) + 1 by omega, zfi_up (zfi1_b hr hb62), ← he]) hS1 (zmB_t hf hfB) (zw2_t hj hjB) K) (fun e => absurd e (by omega))
          | exact st74 (v + 1) _ _ _ _ (by omega) (fun v' e => by have e9 : v = v' := Nat.succ.inj e; subst e9; exact ih _ _ _ _ (by omega) (by rw [show 20 - v = (20 - (v + 1)) + 1 by omega, zfi_0 (zfi1_c hr hb62)]; exact he) hS1 (zmB_t hf hfB) (zw2_t hj hjB) K) (fun e => absurd e (by omega))
          | exact st74 (v + 1) _ _ _ _ (by omega) (fun v' e => by have e9 : v = v' := Nat.succ.inj e; subst e9; exact ih _ _ _ _ (by omega) (by rw [show 20 - v = (20 - (v + 1)) + 1 by omega, zfi_0 (zfi1_a hr)]; exact he) hS1 (zmB_t hf hfB) (zw2_t hj hjB) K) (fun e => absurd e (by omega))
          | fail
set_option maxHeartbeats 2000000 in
set_option maxRecDepth 20000 in
theorem c_X10_fitting {lay : List zL} {I : zI} {J : zJ} {S : zS} (hM : kM lay) (hV : vM I J S) {i j w : Int32} : zMet lay MX10_fitting 18 [.ref 79, .int i, .int j, .int w] I J (fun r I' J' => zPM I J (ffitting S i j w) r I' J') := by
  refine zMet_of (t := MX10_fitting) (ls := [.ref 79, .int i, .int j, .int w, .null, .null, .null]) (by decide +kernel) (Nat.le_of_ble_eq_true rfl) rfl ?_
  obtain ⟨mo, m80, m81, m82, m83, m84, m85, m86, m87, m88, m89, m90, m91, m92, m93, m94, m95, m96⟩ := id hM
  have hW : vW I S.n := hV.1.1
  have hb := hV.1.2.1
  have hG := hV.1.2.2
  have hB := hb.1
  have hT := hb.2.1
  obtain ⟨b1, b2, b3, b4, b5, b6, b7, b8⟩ := id hB
  refine z_aload_n (pc := 0) dX10_fitting_0 rfl rfl ?_
  refine z_iload_n (pc := 1) dX10_fitting_1 rfl rfl ?_
  refine z_iload_n (pc := 2) dX10_fitting_2 rfl rfl ?_
  refine z_callV (pc := 3) (c_X10_isCell hM hW hB) dX10_fitting_3 l_RX10_72 m_MX10_isCell n_MX10_isCell e_MX10_isCell rfl (by omega) (by assumption) rfl rfl (Nat.le_of_ble_eq_true rfl) ?_
  rintro _ _ _ ⟨⟨rfl, hc⟩ | ⟨rfl, hc⟩, rfl, rfl⟩
  · obtain ⟨a, b, rfl, rfl, ha, hbb⟩ := hc; have hk : 3 * a + b < 9 := (by omega); have ea : 3 * a + b = 3 * a + b := rfl
    try dsimp only [zov, Option.toList, List.cons_append, List.nil_append]
    first | refine z_if_eqN (pc := 6) (tgt := 19) (by with_reducible rfl) dX10_fitting_6 (by decide) (by omega) (fun hb6 => absurd hb6 (by decide)) (fun hb6 => ?_) | refine z_if_eq (pc := 6) (tgt := 19) dX10_fitting_6 (by decide) (fun hb6 => absurd hb6 (by decide)) (fun hb6 => ?_)
    · skip
      refine z_iload_n (pc := 9) dX10_fitting_9 rfl rfl ?_
      first | refine z_i2lN (pc := 10) (by with_reducible rfl) dX10_fitting_10 (by omega) ?_ | refine z_i2l (pc := 10) dX10_fitting_10 rfl ?_
      refine z_lconst (pc := 11) (v := lN 0) dX10_fitting_11 rfl ?_
      refine z_lconst (pc := 12) (v := lN 1) dX10_fitting_12 rfl ?_
      refine z_callS (pc := 13) (c_X10_withinI (by omega) (by omega)) dX10_fitting_13 l_RX10_68 m_MX10_within s_MX10_within rfl (by omega) rfl (Nat.le_of_ble_eq_true rfl) ?_
      rintro _ _ _ ⟨⟨rfl, hx⟩ | ⟨rfl, hx⟩, rfl, rfl⟩
      · obtain ⟨x, rfl, hx0, hx1⟩ := hx
        try dsimp only [zov, Option.toList, List.cons_append, List.nil_append]
        first | refine z_if_neN (pc := 16) (tgt := 21) (by with_reducible rfl) dX10_fitting_16 (by decide) (by omega) (fun hb16 => ?_) (fun hb16 => absurd hb16 (by decide)) | refine z_if_ne (pc := 16) (tgt := 21) dX10_fitting_16 (by decide) (fun hb16 => ?_) (fun hb16 => absurd hb16 (by decide))
        · skip
          refine z_aload_n (pc := 21) dX10_fitting_21 rfl rfl ?_
          refine z_callV (pc := 22) (c_X10_keeps hM) dX10_fitting_22 l_RX10_273 m_MX10_keeps n_MX10_keeps e_MX10_keeps rfl (by omega) (by assumption) rfl rfl (Nat.le_of_ble_eq_true rfl) ?_
          rintro _ _ _ (⟨rfl, rfl, rfl⟩)
          try dsimp only [zov, Option.toList, List.cons_append, List.nil_append]
          refine z_iconst (pc := 25) (v := nI 0) dX10_fitting_25 (by decide) ?_
          refine z_istore (pc := 26) dX10_fitting_26 (by decide) rfl ?_
          try dsimp only [zst1, zst2, zk]
          refine z_bipush (pc := 28) (v := -5) dX10_fitting_28 (by decide) ?_
          refine z_istore (pc := 30) dX10_fitting_30 (by decide) rfl ?_
          try dsimp only [zst1, zst2, zk]
          refine z_bipush (pc := 32) (v := nI 20) dX10_fitting_32 (by decide) ?_
          refine z_istore (pc := 34) dX10_fitting_34 (by decide) rfl ?_
          try dsimp only [zst1, zst2, zk]
          refine l_X10_fitting (d := 0) (n := S.n) hM hb ha hbb 20 0 (-5) _ J (by omega) rfl ⟨S.n, fun y hy => (by rw [zcp_o (by omega)]; exact hW y hy), zalb_r _ _, hb⟩ (zmB_r _) (zw2_r _) (fun c x9 I1 J1 q1 q2 q3 => ?_)
          have h82 : ∀ y, y < 73 → I1 82 y = nI (S.n y) := (fun y hy => (q2 82 y (by omega) (by omega) (by omega)).trans (vW_kp hW y hy))
          have hfin : vW (zcp I1 82 0 80 0 73) S.n := vW_lay (I0 := I) h82
          have hfr : ∀ x y, x ≠ 80 → (x ≠ 82 ∧ ¬ (84 ≤ x ∧ x ≤ 92) ∧ (x = 79 → y ≠ 16 ∧ y ≠ 17)) → zcp I1 82 0 80 0 73 x y = I x y := (fun x y h1 h2 => by rw [zcp_o h1, q2 x y h1 (by omega) h2.2.2, zcp_o (by omega)])
          refine z_aload_n (pc := 80) dX10_fitting_80 rfl rfl ?_
          refine z_callV (pc := 81) (c_X10_laysBack hM) dX10_fitting_81 l_RX10_282 m_MX10_laysBack n_MX10_laysBack e_MX10_laysBack rfl (by omega) (by assumption) rfl rfl (Nat.le_of_ble_eq_true rfl) ?_
          rintro _ _ _ (⟨rfl, rfl, rfl⟩)
          try dsimp only [zov, Option.toList, List.cons_append, List.nil_append]
          refine z_iload_n (pc := 84) dX10_fitting_84 rfl rfl ?_
          first | refine z_if_neN (pc := 85) (tgt := 93) (by with_reducible rfl) dX10_fitting_85 (by decide) (by omega) (fun hb85 => ?_) (fun hb85 => ?_) | refine z_if_ne (pc := 85) (tgt := 93) dX10_fitting_85 (by decide) (fun hb85 => ?_) (fun hb85 => ?_)
          · skip
            refine z_iload (pc := 93) dX10_fitting_93 rfl ?_
            refine z_iret (pc := 95) dX10_fitting_95 rfl ?_
            first
            | exact zPM_now (n := S.n) hV hfr (zw2_m q3) hfin hb hG (by rw [ffitting_3 b2 b4 ha hbb hx1, if_pos hb85, ← q1]; rfl)
            | exact zPM_now (n := S.n) hV hfr (zw2_m q3) hfin hb hG (by rw [ffitting_3 b2 b4 ha hbb hx1, if_neg hb85, ← q1]; rfl)
            | fail
          · skip
            refine z_iload (pc := 88) dX10_fitting_88 rfl ?_
            refine z_goto (pc := 90) (tgt := 95) dX10_fitting_90 (by decide) ?_
            refine z_iret (pc := 95) dX10_fitting_95 rfl ?_
            first
            | exact zPM_now (n := S.n) hV hfr (zw2_m q3) hfin hb hG (by rw [ffitting_3 b2 b4 ha hbb hx1, if_pos hb85, ← q1]; rfl)
            | exact zPM_now (n := S.n) hV hfr (zw2_m q3) hfin hb hG (by rw [ffitting_3 b2 b4 ha hbb hx1, if_neg hb85, ← q1]; rfl)
            | fail
      · skip
        try dsimp only [zov, Option.toList, List.cons_append, List.nil_append]
        first | refine z_if_neN (pc := 16) (tgt := 21) (by with_reducible rfl) dX10_fitting_16 (by decide) (by omega) (fun hb16 => absurd hb16 (by decide)) (fun hb16 => ?_) | refine z_if_ne (pc := 16) (tgt := 21) dX10_fitting_16 (by decide) (fun hb16 => absurd hb16 (by decide)) (fun hb16 => ?_)
        · skip
          refine z_iconst (pc := 19) (v := -1) dX10_fitting_19 (by decide) ?_
          refine z_iret (pc := 20) dX10_fitting_20 rfl ?_
          first
            | exact zPM_same hV (ffitting_1 hc)
            | exact zPM_same hV (ffitting_2 (isR_no hx))
            | fail
  · skip
    try dsimp only [zov, Option.toList, List.cons_append, List.nil_append]
    first | refine z_if_eqN (pc := 6) (tgt := 19) (by with_reducible rfl) dX10_fitting_6 (by decide) (by omega) (fun hb6 => ?_) (fun hb6 => absurd hb6 (by decide)) | refine z_if_eq (pc := 6) (tgt := 19) dX10_fitting_6 (by decide) (fun hb6 => ?_) (fun hb6 => absurd hb6 (by decide))
    · skip
      refine z_iconst (pc := 19) (v := -1) dX10_fitting_19 (by decide) ?_
      refine z_iret (pc := 20) dX10_fitting_20 rfl ?_
      first
        | exact zPM_same hV (ffitting_1 hc)
        | exact zPM_same hV (ffitting_2 (isR_no hx))
        | fail
set_option maxHeartbeats 2000000 in
set_option maxRecDepth 20000 in
theorem l_X10_odds {lay : List zL} {Q : Value → zI → zJ → Prop} {n : Nat → Nat} {d a b : Nat} {p : Int32} {I0 : zI} {J0 : zJ} (hM : kM lay) (hb0 : bN n) (ha : a < n 0) (hbb : b < n 1) : ∀ (f v c : Nat) (I : zI) (J : zJ), v + f = 10 → (∃ m, vW I m ∧ zalb n m (3 * a + b) ∧ bN m) → zmB I0 I → zw2 J0 J → (∀ I' J', zmB I0 I' → zw2 J0 J' → Z lay MX10_odds (d + 18) 82 [.ref 79, .int (nI a), .int (nI b), .int p, .int (nI (zod n (3 * a + b) f v c)), .int (nI 10)] [] I' J' Q) → Z lay MX10_odds (d + 18) 30 [.ref 79, .int (nI a), .int (nI b), .int p, .int (nI c), .int (nI v)] [] I J Q := by
  obtain ⟨b1, b2, b3, b4, b5, b6, b7, b8⟩ := id hb0.1
  have hk : 3 * a + b < 9 := (by omega)
  intro f
  induction f with
  | zero =>
    intro v c I J hv hS hf hj K
    obtain rfl : v = 10 := (by omega)
    obtain ⟨mo, m80, m81, m82, m83, m84, m85, m86, m87, m88, m89, m90, m91, m92, m93, m94, m95, m96⟩ := id hM
    refine z_iload (pc := 30) dX10_odds_30 rfl ?_
    refine z_bipush (pc := 32) (v := nI 10) dX10_odds_32 (by decide) ?_
    first | refine z_icmp_geN (pc := 34) (tgt := 82) (by with_reducible rfl) (by with_reducible rfl) dX10_odds_34 (by decide) (by omega) (by omega) (fun hb34 => ?_) (fun hb34 => absurd (Nat.le_refl 10) hb34) | refine z_icmp_ge (pc := 34) (tgt := 82) dX10_odds_34 (by decide) (fun hb34 => ?_) (fun hb34 => absurd (Nat.le_refl 10) hb34)
    · skip
      exact K I J hf hj
  | succ f ih =>
    intro v c I J hv hS hf hj K
    obtain ⟨m, hW, hal, hbm⟩ := hS
    obtain ⟨mo, m80, m81, m82, m83, m84, m85, m86, m87, m88, m89, m90, m91, m92, m93, m94, m95, m96⟩ := id hM
    refine z_iload (pc := 30) dX10_odds_30 rfl ?_
    refine z_bipush (pc := 32) (v := nI 10) dX10_odds_32 (by decide) ?_
    first | refine z_icmp_geN (pc := 34) (tgt := 82) (by with_reducible rfl) (by with_reducible rfl) dX10_odds_34 (by decide) (by omega) (by omega) (fun hb34 => absurd hb34 (by omega)) (fun hb34 => ?_) | refine z_icmp_ge (pc := 34) (tgt := 82) dX10_odds_34 (by decide) (fun hb34 => absurd hb34 (by omega)) (fun hb34 => ?_)
    · skip
      refine z_iload (pc := 37) dX10_odds_37 rfl ?_
      refine z_aload_n (pc := 39) dX10_odds_39 rfl rfl ?_
      refine z_iconst (pc := 40) (v := nI 3) dX10_odds_40 (by decide) ?_
      refine z_iload_n (pc := 41) dX10_odds_41 rfl rfl ?_
      first | refine z_imulN (pc := 42) (by with_reducible rfl) (by with_reducible rfl) dX10_odds_42 ?_ | refine z_imul (pc := 42) dX10_odds_42 ?_
      refine z_iload_n (pc := 43) dX10_odds_43 rfl rfl ?_
      first | refine z_iaddN (pc := 44) (by with_reducible rfl) (by with_reducible rfl) dX10_odds_44 ?_ | refine z_iadd (pc := 44) dX10_odds_44 ?_
      refine z_iload (pc := 45) dX10_odds_45 rfl ?_
      refine z_callV (pc := 47) (c_X10_isRoundedBy (n := n) hM hW hk (by omega) hal hbm) dX10_odds_47 l_RX10_276 m_MX10_isRoundedBy n_MX10_isRoundedBy e_MX10_isRoundedBy rfl (by omega) (by assumption) rfl rfl (Nat.le_of_ble_eq_true rfl) ?_
      rintro _ _ _ ⟨⟨rfl, w9, hr, hag⟩ | ⟨rfl, hr⟩, hS1, hfB, hjB⟩
      · have hgw := (hag (3 * a + b) hk (by omega) (by omega)).1; have hgb := (hag (3 * a + b) hk (by omega) (by omega)).2
        try dsimp only [zov, Option.toList, List.cons_append, List.nil_append]
        first | refine z_if_eqN (pc := 50) (tgt := 72) (by with_reducible rfl) dX10_odds_50 (by decide) (by omega) (fun hb50 => absurd hb50 (by decide)) (fun hb50 => ?_) | refine z_if_eq (pc := 50) (tgt := 72) dX10_odds_50 (by decide) (fun hb50 => absurd hb50 (by decide)) (fun hb50 => ?_)
        · skip
          refine z_aload_n (pc := 53) dX10_odds_53 rfl rfl ?_
          refine z_getR (pc := 54) dX10_odds_54 f_RX10_42 (by assumption) rfl ?_
          refine z_iconst (pc := 57) (v := nI 3) dX10_odds_57 (by decide) ?_
          refine z_iload_n (pc := 58) dX10_odds_58 rfl rfl ?_
          first | refine z_imulN (pc := 59) (by with_reducible rfl) (by with_reducible rfl) dX10_odds_59 ?_ | refine z_imul (pc := 59) dX10_odds_59 ?_
          refine z_iload_n (pc := 60) dX10_odds_60 rfl rfl ?_
          first | refine z_iaddN (pc := 61) (by with_reducible rfl) (by with_reducible rfl) dX10_odds_61 ?_ | refine z_iadd (pc := 61) dX10_odds_61 ?_
          refine z_ialoadv (pc := 62) dX10_odds_62 (by assumption) (by with_reducible rfl) (by omega) (by decide) (by first | assumption | exact hgw | rfl) ?_
          refine z_iload (pc := 63) dX10_odds_63 rfl ?_
          first | refine z_icmp_ltN (pc := 65) (tgt := 72) (by with_reducible rfl) (by with_reducible rfl) dX10_odds_65 (by decide) (by omega) (by omega) (fun hb65 => ?_) (fun hb65 => ?_) | refine z_icmp_lt (pc := 65) (tgt := 72) dX10_odds_65 (by decide) (fun hb65 => ?_) (fun hb65 => ?_)
          · skip
            refine z_iconst (pc := 72) (v := nI 0) dX10_odds_72 (by decide) ?_
            first | refine z_iaddN (pc := 73) (by with_reducible rfl) (by with_reducible rfl) dX10_odds_73 ?_ | refine z_iadd (pc := 73) dX10_odds_73 ?_
            refine z_istore (pc := 74) dX10_odds_74 (by decide) rfl ?_
            try dsimp only [zst1, zst2, zk]
            first | refine z_iincN (pc := 76) (c := 1) dX10_odds_76 rfl (by with_reducible rfl) (by decide) (by decide) rfl ?_ | refine z_iinc (pc := 76) dX10_odds_76 rfl rfl (by decide) rfl ?_
            try dsimp only [zst1, zst2, zk]
            refine z_goto (pc := 79) (tgt := 30) dX10_odds_79 (by decide) ?_
            first
            | exact ih (v + 1) (c + 1) _ _ (by omega) hS1 (zmB_t hf hfB) (zw2_t hj hjB) (fun I' J' => by rw [zod_1 (zod1_b hr (by omega))] at K; exact K I' J')
            | exact ih (v + 1) (c + 0) _ _ (by omega) hS1 (zmB_t hf hfB) (zw2_t hj hjB) (fun I' J' => by rw [zod_0 (zod1_c hr (by omega))] at K; exact K I' J')
            | exact ih (v + 1) (c + 0) _ _ (by omega) hS1 (zmB_t hf hfB) (zw2_t hj hjB) (fun I' J' => by rw [zod_0 (zod1_a hr)] at K; exact K I' J')
            | fail
          · skip
            refine z_iconst (pc := 68) (v := nI 1) dX10_odds_68 (by decide) ?_
            refine z_goto (pc := 69) (tgt := 73) dX10_odds_69 (by decide) ?_
            first | refine z_iaddN (pc := 73) (by with_reducible rfl) (by with_reducible rfl) dX10_odds_73 ?_ | refine z_iadd (pc := 73) dX10_odds_73 ?_
            refine z_istore (pc := 74) dX10_odds_74 (by decide) rfl ?_
            try dsimp only [zst1, zst2, zk]
            first | refine z_iincN (pc := 76) (c := 1) dX10_odds_76 rfl (by with_reducible rfl) (by decide) (by decide) rfl ?_ | refine z_iinc (pc := 76) dX10_odds_76 rfl rfl (by decide) rfl ?_
            try dsimp only [zst1, zst2, zk]
            refine z_goto (pc := 79) (tgt := 30) dX10_odds_79 (by decide) ?_
            first
            | exact ih (v + 1) (c + 1) _ _ (by omega) hS1 (zmB_t hf hfB) (zw2_t hj hjB) (fun I' J' => by rw [zod_1 (zod1_b hr (by omega))] at K; exact K I' J')
            | exact ih (v + 1) (c + 0) _ _ (by omega) hS1 (zmB_t hf hfB) (zw2_t hj hjB) (fun I' J' => by rw [zod_0 (zod1_c hr (by omega))] at K; exact K I' J')
            | exact ih (v + 1) (c + 0) _ _ (by omega) hS1 (zmB_t hf hfB) (zw2_t hj hjB) (fun I' J' => by rw [zod_0 (zod1_a hr)] at K; exact K I' J')
            | fail
      · skip
        try dsimp only [zov, Option.toList, List.cons_append, List.nil_append]
        first | refine z_if_eqN (pc := 50) (tgt := 72) (by with_reducible rfl) dX10_odds_50 (by decide) (by omega) (fun hb50 => ?_) (fun hb50 => absurd hb50 (by decide)) | refine z_if_eq (pc := 50) (tgt := 72) dX10_odds_50 (by decide) (fun hb50 => ?_) (fun hb50 => absurd hb50 (by decide))
        · skip
          refine z_iconst (pc := 72) (v := nI 0) dX10_odds_72 (by decide) ?_
          first | refine z_iaddN (pc := 73) (by with_reducible rfl) (by with_reducible rfl) dX10_odds_73 ?_ | refine z_iadd (pc := 73) dX10_odds_73 ?_
          refine z_istore (pc := 74) dX10_odds_74 (by decide) rfl ?_
          try dsimp only [zst1, zst2, zk]
          first | refine z_iincN (pc := 76) (c := 1) dX10_odds_76 rfl (by with_reducible rfl) (by decide) (by decide) rfl ?_ | refine z_iinc (pc := 76) dX10_odds_76 rfl rfl (by decide) rfl ?_
          try dsimp only [zst1, zst2, zk]
          refine z_goto (pc := 79) (tgt := 30) dX10_odds_79 (by decide) ?_
          first
          | exact ih (v + 1) (c + 1) _ _ (by omega) hS1 (zmB_t hf hfB) (zw2_t hj hjB) (fun I' J' => by rw [zod_1 (zod1_b hr (by omega))] at K; exact K I' J')
          | exact ih (v + 1) (c + 0) _ _ (by omega) hS1 (zmB_t hf hfB) (zw2_t hj hjB) (fun I' J' => by rw [zod_0 (zod1_c hr (by omega))] at K; exact K I' J')
          | exact ih (v + 1) (c + 0) _ _ (by omega) hS1 (zmB_t hf hfB) (zw2_t hj hjB) (fun I' J' => by rw [zod_0 (zod1_a hr)] at K; exact K I' J')
          | fail
theorem zptm_0 {x y : Nat} : zpt (nI 0) x y = lN x := if_pos rfl
theorem zptm_1 {x y : Nat} : zpt (nI 1) x y = lN y := by
  unfold zpt
  rw [if_neg (by decide), if_pos rfl]
set_option maxHeartbeats 2000000 in
set_option maxRecDepth 20000 in
theorem c_X10_odds {lay : List zL} {I : zI} {J : zJ} {S : zS} (hM : kM lay) (hV : vM I J S) {i j p : Int32} : zMet lay MX10_odds 18 [.ref 79, .int i, .int j, .int p] I J (fun r I' J' => zPM I J (fodds S i j p) r I' J') := by
  refine zMet_of (t := MX10_odds) (ls := [.ref 79, .int i, .int j, .int p, .null, .null]) (by decide +kernel) (Nat.le_of_ble_eq_true rfl) rfl ?_
  obtain ⟨mo, m80, m81, m82, m83, m84, m85, m86, m87, m88, m89, m90, m91, m92, m93, m94, m95, m96⟩ := id hM
  have hW : vW I S.n := hV.1.1
  have hb := hV.1.2.1
  have hG := hV.1.2.2
  have hB := hb.1
  have hT := hb.2.1
  obtain ⟨b1, b2, b3, b4, b5, b6, b7, b8⟩ := id hB
  refine z_aload_n (pc := 0) dX10_odds_0 rfl rfl ?_
  refine z_iload_n (pc := 1) dX10_odds_1 rfl rfl ?_
  refine z_iload_n (pc := 2) dX10_odds_2 rfl rfl ?_
  refine z_callV (pc := 3) (c_X10_isCell hM hW hB) dX10_odds_3 l_RX10_72 m_MX10_isCell n_MX10_isCell e_MX10_isCell rfl (by omega) (by assumption) rfl rfl (Nat.le_of_ble_eq_true rfl) ?_
  rintro _ _ _ ⟨⟨rfl, hc⟩ | ⟨rfl, hc⟩, rfl, rfl⟩
  · obtain ⟨a, b, rfl, rfl, ha, hbb⟩ := hc; have hk : 3 * a + b < 9 := (by omega); have ea : 3 * a + b = 3 * a + b := rfl
    try dsimp only [zov, Option.toList, List.cons_append, List.nil_append]
    first | refine z_if_eqN (pc := 6) (tgt := 16) (by with_reducible rfl) dX10_odds_6 (by decide) (by omega) (fun hb6 => absurd hb6 (by decide)) (fun hb6 => ?_) | refine z_if_eq (pc := 6) (tgt := 16) dX10_odds_6 (by decide) (fun hb6 => absurd hb6 (by decide)) (fun hb6 => ?_)
    · skip
      refine z_iload_n (pc := 9) dX10_odds_9 rfl rfl ?_
      refine z_callS (pc := 10) c_X10_isPart dX10_odds_10 l_RX10_187 m_MX10_isPart s_MX10_isPart rfl (by omega) rfl (Nat.le_of_ble_eq_true rfl) ?_
      rintro _ _ _ ⟨⟨rfl, rfl | rfl⟩ | ⟨rfl, hp0, hp1⟩, rfl, rfl⟩
      · skip
        try dsimp only [zov, Option.toList, List.cons_append, List.nil_append]
        first | refine z_if_neN (pc := 13) (tgt := 20) (by with_reducible rfl) dX10_odds_13 (by decide) (by omega) (fun hb13 => ?_) (fun hb13 => absurd hb13 (by decide)) | refine z_if_ne (pc := 13) (tgt := 20) dX10_odds_13 (by decide) (fun hb13 => ?_) (fun hb13 => absurd hb13 (by decide))
        · skip
          refine z_aload_n (pc := 20) dX10_odds_20 rfl rfl ?_
          refine z_callV (pc := 21) (c_X10_keeps hM) dX10_odds_21 l_RX10_273 m_MX10_keeps n_MX10_keeps e_MX10_keeps rfl (by omega) (by assumption) rfl rfl (Nat.le_of_ble_eq_true rfl) ?_
          rintro _ _ _ (⟨rfl, rfl, rfl⟩)
          try dsimp only [zov, Option.toList, List.cons_append, List.nil_append]
          refine z_iconst (pc := 24) (v := nI 0) dX10_odds_24 (by decide) ?_
          refine z_istore (pc := 25) dX10_odds_25 (by decide) rfl ?_
          try dsimp only [zst1, zst2, zk]
          refine z_iconst (pc := 27) (v := nI 0) dX10_odds_27 (by decide) ?_
          refine z_istore (pc := 28) dX10_odds_28 (by decide) rfl ?_
          try dsimp only [zst1, zst2, zk]
          refine l_X10_odds (d := 0) (n := S.n) (I0 := zcp I 80 0 82 0 73) (J0 := J) hM hb ha hbb 10 0 0 _ J rfl ⟨S.n, fun y hy => (by rw [zcp_o (by omega)]; exact hW y hy), zalb_r _ _, hb⟩ (zmB_r _) (zw2_r _) (fun I1 J1 q2 q3 => ?_)
          have h82 : ∀ y, y < 73 → I1 82 y = nI (S.n y) := (fun y hy => (q2 82 y (by omega) (by omega) (by omega)).trans (vW_kp hW y hy))
          have hfin : vW (zcp I1 82 0 80 0 73) S.n := vW_lay (I0 := I) h82
          have hfr : ∀ x y, x ≠ 80 → (x ≠ 82 ∧ ¬ (84 ≤ x ∧ x ≤ 92) ∧ (x = 79 → y ≠ 16 ∧ y ≠ 17)) → zcp I1 82 0 80 0 73 x y = I x y := (fun x y h1 h2 => by rw [zcp_o h1, q2 x y h1 (by omega) h2.2.2, zcp_o (by omega)])
          have hzl := zod_le (n := S.n) (k := 3 * a + b) 10 0 0
          refine z_aload_n (pc := 82) dX10_odds_82 rfl rfl ?_
          refine z_callV (pc := 83) (c_X10_laysBack hM) dX10_odds_83 l_RX10_282 m_MX10_laysBack n_MX10_laysBack e_MX10_laysBack rfl (by omega) (by assumption) rfl rfl (Nat.le_of_ble_eq_true rfl) ?_
          rintro _ _ _ (⟨rfl, rfl, rfl⟩)
          try dsimp only [zov, Option.toList, List.cons_append, List.nil_append]
          refine z_aload_n (pc := 86) dX10_odds_86 rfl rfl ?_
          refine z_iload (pc := 87) dX10_odds_87 rfl ?_
          first | refine z_i2lN (pc := 89) (by with_reducible rfl) dX10_odds_89 (by omega) ?_ | refine z_i2l (pc := 89) dX10_odds_89 rfl ?_
          refine z_ldc2 (pc := 90) (v := lN 10) dX10_odds_90 q_RX10_285 ?_
          refine z_callV (pc := 93) (c_X10_worksOut (x := zod S.n (3 * a + b) 10 0 0) (y := 10) hM (by omega) (by omega) (by omega)) dX10_odds_93 l_RX10_156 m_MX10_worksOut n_MX10_worksOut e_MX10_worksOut rfl (by omega) (by assumption) rfl rfl (Nat.le_of_ble_eq_true rfl) ?_
          rintro _ _ _ ⟨⟨rfl, hok⟩ | ⟨rfl, hok⟩, rfl, rfl⟩
          · skip
            try dsimp only [zov, Option.toList, List.cons_append, List.nil_append]
            refine z_pop (pc := 96) dX10_odds_96 rfl ?_
            refine z_iload_n (pc := 97) dX10_odds_97 rfl rfl ?_
            first | refine z_if_neN (pc := 98) (tgt := 108) (by with_reducible rfl) dX10_odds_98 (by decide) (by omega) (fun hb98 => ?_) (fun hb98 => ?_) | refine z_if_ne (pc := 98) (tgt := 108) dX10_odds_98 (by decide) (fun hb98 => ?_) (fun hb98 => ?_)
            · skip
              refine z_aload_n (pc := 108) dX10_odds_108 rfl rfl ?_
              refine z_getJv (pc := 109) dX10_odds_109 f_RX10_151 (by assumption) rfl (by first | assumption | exact (zup_n _ _ (by decide)).trans (zup_s _ _ _ _) | exact zup_s _ _ _ _ | rfl) ?_
              refine z_lret (pc := 112) dX10_odds_112 rfl ?_
              first
              | exact zPM_now (n := S.n) hV hfr (zmJ_t (zw2_m q3) (zw2_m zw2_u)) hfin hb hG (by rw [fodds_3 b2 b4 ha hbb, zptm_0]; rfl)
              | exact zPM_now (n := S.n) hV hfr (zmJ_t (zw2_m q3) (zw2_m zw2_u)) hfin hb hG (by rw [fodds_3 b2 b4 ha hbb, zptm_1]; rfl)
              | exact absurd rfl hb98
              | exact absurd hb98 (by decide)
              | fail
            · skip
              refine z_aload_n (pc := 101) dX10_odds_101 rfl rfl ?_
              refine z_getJv (pc := 102) dX10_odds_102 f_RX10_147 (by assumption) rfl (by first | assumption | exact (zup_n _ _ (by decide)).trans (zup_s _ _ _ _) | exact zup_s _ _ _ _ | rfl) ?_
              refine z_goto (pc := 105) (tgt := 112) dX10_odds_105 (by decide) ?_
              refine z_lret (pc := 112) dX10_odds_112 rfl ?_
              first
              | exact zPM_now (n := S.n) hV hfr (zmJ_t (zw2_m q3) (zw2_m zw2_u)) hfin hb hG (by rw [fodds_3 b2 b4 ha hbb, zptm_0]; rfl)
              | exact zPM_now (n := S.n) hV hfr (zmJ_t (zw2_m q3) (zw2_m zw2_u)) hfin hb hG (by rw [fodds_3 b2 b4 ha hbb, zptm_1]; rfl)
              | exact absurd rfl hb98
              | exact absurd hb98 (by decide)
              | fail
          · skip
            try dsimp only [zov, Option.toList, List.cons_append, List.nil_append]
            refine z_pop (pc := 96) dX10_odds_96 rfl ?_
            refine z_iload_n (pc := 97) dX10_odds_97 rfl rfl ?_
            first | refine z_if_neN (pc := 98) (tgt := 108) (by with_reducible rfl) dX10_odds_98 (by decide) (by omega) (fun hb98 => ?_) (fun hb98 => ?_) | refine z_if_ne (pc := 98) (tgt := 108) dX10_odds_98 (by decide) (fun hb98 => ?_) (fun hb98 => ?_)
            · skip
              refine z_aload_n (pc := 108) dX10_odds_108 rfl rfl ?_
              refine z_getJv (pc := 109) dX10_odds_109 f_RX10_151 (by assumption) rfl (by first | assumption | exact (zup_n _ _ (by decide)).trans (zup_s _ _ _ _) | exact zup_s _ _ _ _ | rfl) ?_
              refine z_lret (pc := 112) dX10_odds_112 rfl ?_
              first
              | exact zPM_now (n := S.n) hV hfr (zmJ_t (zw2_m q3) (zw2_m zw2_u)) hfin hb hG (by rw [fodds_3 b2 b4 ha hbb, zptm_0]; rfl)
              | exact zPM_now (n := S.n) hV hfr (zmJ_t (zw2_m q3) (zw2_m zw2_u)) hfin hb hG (by rw [fodds_3 b2 b4 ha hbb, zptm_1]; rfl)
              | exact absurd rfl hb98
              | exact absurd hb98 (by decide)
              | fail
            · skip
              refine z_aload_n (pc := 101) dX10_odds_101 rfl rfl ?_
              refine z_getJv (pc := 102) dX10_odds_102 f_RX10_147 (by assumption) rfl (by first | assumption | exact (zup_n _ _ (by decide)).trans (zup_s _ _ _ _) | exact zup_s _ _ _ _ | rfl) ?_
              refine z_goto (pc := 105) (tgt := 112) dX10_odds_105 (by decide) ?_
              refine z_lret (pc := 112) dX10_odds_112 rfl ?_
              first
              | exact zPM_now (n := S.n) hV hfr (zmJ_t (zw2_m q3) (zw2_m zw2_u)) hfin hb hG (by rw [fodds_3 b2 b4 ha hbb, zptm_0]; rfl)
              | exact zPM_now (n := S.n) hV hfr (zmJ_t (zw2_m q3) (zw2_m zw2_u)) hfin hb hG (by rw [fodds_3 b2 b4 ha hbb, zptm_1]; rfl)
              | exact absurd rfl hb98
              | exact absurd hb98 (by decide)
              | fail
      · skip
        try dsimp only [zov, Option.toList, List.cons_append, List.nil_append]
        first | refine z_if_neN (pc := 13) (tgt := 20) (by with_reducible rfl) dX10_odds_13 (by decide) (by omega) (fun hb13 => ?_) (fun hb13 => absurd hb13 (by decide)) | refine z_if_ne (pc := 13) (tgt := 20) dX10_odds_13 (by decide) (fun hb13 => ?_) (fun hb13 => absurd hb13 (by decide))
        · skip
          refine z_aload_n (pc := 20) dX10_odds_20 rfl rfl ?_
          refine z_callV (pc := 21) (c_X10_keeps hM) dX10_odds_21 l_RX10_273 m_MX10_keeps n_MX10_keeps e_MX10_keeps rfl (by omega) (by assumption) rfl rfl (Nat.le_of_ble_eq_true rfl) ?_
          rintro _ _ _ (⟨rfl, rfl, rfl⟩)
          try dsimp only [zov, Option.toList, List.cons_append, List.nil_append]
          refine z_iconst (pc := 24) (v := nI 0) dX10_odds_24 (by decide) ?_
          refine z_istore (pc := 25) dX10_odds_25 (by decide) rfl ?_
          try dsimp only [zst1, zst2, zk]
          refine z_iconst (pc := 27) (v := nI 0) dX10_odds_27 (by decide) ?_
          refine z_istore (pc := 28) dX10_odds_28 (by decide) rfl ?_
          try dsimp only [zst1, zst2, zk]
          refine l_X10_odds (d := 0) (n := S.n) (I0 := zcp I 80 0 82 0 73) (J0 := J) hM hb ha hbb 10 0 0 _ J rfl ⟨S.n, fun y hy => (by rw [zcp_o (by omega)]; exact hW y hy), zalb_r _ _, hb⟩ (zmB_r _) (zw2_r _) (fun I1 J1 q2 q3 => ?_)
          have h82 : ∀ y, y < 73 → I1 82 y = nI (S.n y) := (fun y hy => (q2 82 y (by omega) (by omega) (by omega)).trans (vW_kp hW y hy))
          have hfin : vW (zcp I1 82 0 80 0 73) S.n := vW_lay (I0 := I) h82
          have hfr : ∀ x y, x ≠ 80 → (x ≠ 82 ∧ ¬ (84 ≤ x ∧ x ≤ 92) ∧ (x = 79 → y ≠ 16 ∧ y ≠ 17)) → zcp I1 82 0 80 0 73 x y = I x y := (fun x y h1 h2 => by rw [zcp_o h1, q2 x y h1 (by omega) h2.2.2, zcp_o (by omega)])
          have hzl := zod_le (n := S.n) (k := 3 * a + b) 10 0 0
          refine z_aload_n (pc := 82) dX10_odds_82 rfl rfl ?_
          refine z_callV (pc := 83) (c_X10_laysBack hM) dX10_odds_83 l_RX10_282 m_MX10_laysBack n_MX10_laysBack e_MX10_laysBack rfl (by omega) (by assumption) rfl rfl (Nat.le_of_ble_eq_true rfl) ?_
          rintro _ _ _ (⟨rfl, rfl, rfl⟩)
          try dsimp only [zov, Option.toList, List.cons_append, List.nil_append]
          refine z_aload_n (pc := 86) dX10_odds_86 rfl rfl ?_
          refine z_iload (pc := 87) dX10_odds_87 rfl ?_
          first | refine z_i2lN (pc := 89) (by with_reducible rfl) dX10_odds_89 (by omega) ?_ | refine z_i2l (pc := 89) dX10_odds_89 rfl ?_
          refine z_ldc2 (pc := 90) (v := lN 10) dX10_odds_90 q_RX10_285 ?_
          refine z_callV (pc := 93) (c_X10_worksOut (x := zod S.n (3 * a + b) 10 0 0) (y := 10) hM (by omega) (by omega) (by omega)) dX10_odds_93 l_RX10_156 m_MX10_worksOut n_MX10_worksOut e_MX10_worksOut rfl (by omega) (by assumption) rfl rfl (Nat.le_of_ble_eq_true rfl) ?_
          rintro _ _ _ ⟨⟨rfl, hok⟩ | ⟨rfl, hok⟩, rfl, rfl⟩
          · skip
            try dsimp only [zov, Option.toList, List.cons_append, List.nil_append]
            refine z_pop (pc := 96) dX10_odds_96 rfl ?_
            refine z_iload_n (pc := 97) dX10_odds_97 rfl rfl ?_
            first | refine z_if_neN (pc := 98) (tgt := 108) (by with_reducible rfl) dX10_odds_98 (by decide) (by omega) (fun hb98 => ?_) (fun hb98 => ?_) | refine z_if_ne (pc := 98) (tgt := 108) dX10_odds_98 (by decide) (fun hb98 => ?_) (fun hb98 => ?_)
            · skip
              refine z_aload_n (pc := 108) dX10_odds_108 rfl rfl ?_
              refine z_getJv (pc := 109) dX10_odds_109 f_RX10_151 (by assumption) rfl (by first | assumption | exact (zup_n _ _ (by decide)).trans (zup_s _ _ _ _) | exact zup_s _ _ _ _ | rfl) ?_
              refine z_lret (pc := 112) dX10_odds_112 rfl ?_
              first
              | exact zPM_now (n := S.n) hV hfr (zmJ_t (zw2_m q3) (zw2_m zw2_u)) hfin hb hG (by rw [fodds_3 b2 b4 ha hbb, zptm_0]; rfl)
              | exact zPM_now (n := S.n) hV hfr (zmJ_t (zw2_m q3) (zw2_m zw2_u)) hfin hb hG (by rw [fodds_3 b2 b4 ha hbb, zptm_1]; rfl)
              | exact absurd rfl hb98
              | exact absurd hb98 (by decide)
              | fail
            · skip
              refine z_aload_n (pc := 101) dX10_odds_101 rfl rfl ?_
              refine z_getJv (pc := 102) dX10_odds_102 f_RX10_147 (by assumption) rfl (by first | assumption | exact (zup_n _ _ (by decide)).trans (zup_s _ _ _ _) | exact zup_s _ _ _ _ | rfl) ?_
              refine z_goto (pc := 105) (tgt := 112) dX10_odds_105 (by decide) ?_
              refine z_lret (pc := 112) dX10_odds_112 rfl ?_
              first
              | exact zPM_now (n := S.n) hV hfr (zmJ_t (zw2_m q3) (zw2_m zw2_u)) hfin hb hG (by rw [fodds_3 b2 b4 ha hbb, zptm_0]; rfl)
              | exact zPM_now (n := S.n) hV hfr (zmJ_t (zw2_m q3) (zw2_m zw2_u)) hfin hb hG (by rw [fodds_3 b2 b4 ha hbb, zptm_1]; rfl)
              | exact absurd rfl hb98
              | exact absurd hb98 (by decide)
              | fail
          · skip
            try dsimp only [zov, Option.toList, List.cons_append, List.nil_append]
            refine z_pop (pc := 96) dX10_odds_96 rfl ?_
            refine z_iload_n (pc := 97) dX10_odds_97 rfl rfl ?_
            first | refine z_if_neN (pc := 98) (tgt := 108) (by with_reducible rfl) dX10_odds_98 (by decide) (by omega) (fun hb98 => ?_) (fun hb98 => ?_) | refine z_if_ne (pc := 98) (tgt := 108) dX10_odds_98 (by decide) (fun hb98 => ?_) (fun hb98 => ?_)
            · skip
              refine z_aload_n (pc := 108) dX10_odds_108 rfl rfl ?_
              refine z_getJv (pc := 109) dX10_odds_109 f_RX10_151 (by assumption) rfl (by first | assumption | exact (zup_n _ _ (by decide)).trans (zup_s _ _ _ _) | exact zup_s _ _ _ _ | rfl) ?_
              refine z_lret (pc := 112) dX10_odds_112 rfl ?_
              first
              | exact zPM_now (n := S.n) hV hfr (zmJ_t (zw2_m q3) (zw2_m zw2_u)) hfin hb hG (by rw [fodds_3 b2 b4 ha hbb, zptm_0]; rfl)
              | exact zPM_now (n := S.n) hV hfr (zmJ_t (zw2_m q3) (zw2_m zw2_u)) hfin hb hG (by rw [fodds_3 b2 b4 ha hbb, zptm_1]; rfl)
              | exact absurd rfl hb98
              | exact absurd hb98 (by decide)
              | fail
            · skip
              refine z_aload_n (pc := 101) dX10_odds_101 rfl rfl ?_
              refine z_getJv (pc := 102) dX10_odds_102 f_RX10_147 (by assumption) rfl (by first | assumption | exact (zup_n _ _ (by decide)).trans (zup_s _ _ _ _) | exact zup_s _ _ _ _ | rfl) ?_
              refine z_goto (pc := 105) (tgt := 112) dX10_odds_105 (by decide) ?_
              refine z_lret (pc := 112) dX10_odds_112 rfl ?_
              first
              | exact zPM_now (n := S.n) hV hfr (zmJ_t (zw2_m q3) (zw2_m zw2_u)) hfin hb hG (by rw [fodds_3 b2 b4 ha hbb, zptm_0]; rfl)
              | exact zPM_now (n := S.n) hV hfr (zmJ_t (zw2_m q3) (zw2_m zw2_u)) hfin hb hG (by rw [fodds_3 b2 b4 ha hbb, zptm_1]; rfl)
              | exact absurd rfl hb98
              | exact absurd hb98 (by decide)
              | fail
      · skip
        try dsimp only [zov, Option.toList, List.cons_append, List.nil_append]
        first | refine z_if_neN (pc := 13) (tgt := 20) (by with_reducible rfl) dX10_odds_13 (by decide) (by omega) (fun hb13 => absurd hb13 (by decide)) (fun hb13 => ?_) | refine z_if_ne (pc := 13) (tgt := 20) dX10_odds_13 (by decide) (fun hb13 => absurd hb13 (by decide)) (fun hb13 => ?_)
        · skip
          refine z_ldc2 (pc := 16) (v := -9223372036854775808) dX10_odds_16 q_RX10_190 ?_
          refine z_lret (pc := 19) dX10_odds_19 rfl ?_
          first
            | exact zPM_same hV (fodds_1 hc)
            | exact zPM_same hV (fodds_2 b2 b4 ha hbb (zp01_n hp0 hp1))
            | fail
  · skip
    try dsimp only [zov, Option.toList, List.cons_append, List.nil_append]
    first | refine z_if_eqN (pc := 6) (tgt := 16) (by with_reducible rfl) dX10_odds_6 (by decide) (by omega) (fun hb6 => ?_) (fun hb6 => absurd hb6 (by decide)) | refine z_if_eq (pc := 6) (tgt := 16) dX10_odds_6 (by decide) (fun hb6 => ?_) (fun hb6 => absurd hb6 (by decide))
    · skip
      refine z_ldc2 (pc := 16) (v := -9223372036854775808) dX10_odds_16 q_RX10_190 ?_
      refine z_lret (pc := 19) dX10_odds_19 rfl ?_
      first
        | exact zPM_same hV (fodds_1 hc)
        | exact zPM_same hV (fodds_2 b2 b4 ha hbb (zp01_n hp0 hp1))
        | fail
theorem fmean_0 {S : zS} : fmean S (nI 0) = (.long (lN (zred (zlsum (fun k => S.n (7 + k)) (zl (S.n 0) (S.n 1) 0)) (S.n 0 * S.n 1)).1), S) := by
  unfold fmean
  rw [zptm_0]
theorem fmean_1 {S : zS} : fmean S (nI 1) = (.long (lN (zred (zlsum (fun k => S.n (7 + k)) (zl (S.n 0) (S.n 1) 0)) (S.n 0 * S.n 1)).2), S) := by
  unfold fmean
  rw [zptm_1]
theorem fmean_n {S : zS} {p : Int32} (h : ¬ isR 1 p) : fmean S p = (.long (-9223372036854775808), S) := by
  unfold fmean
  rw [zpt_r h]
set_option maxHeartbeats 2000000 in
set_option maxRecDepth 20000 in
theorem c_X10_mean {lay : List zL} {I : zI} {J : zJ} {S : zS} (hM : kM lay) (hV : vM I J S) {p : Int32} : zMet lay MX10_mean 4 [.ref 79, .int p] I J (fun r I' J' => zPM I J (fmean S p) r I' J') := by
  refine zMet_of (t := MX10_mean) (ls := [.ref 79, .int p]) (by decide +kernel) (Nat.le_of_ble_eq_true rfl) rfl ?_
  obtain ⟨mo, m80, m81, m82, m83, m84, m85, m86, m87, m88, m89, m90, m91, m92, m93, m94, m95, m96⟩ := id hM
  have hW : vW I S.n := hV.1.1
  have hb := hV.1.2.1
  have hG := hV.1.2.2
  have hB := hb.1
  have hT := hb.2.1
  obtain ⟨b1, b2, b3, b4, b5, b6, b7, b8⟩ := id hB
  have h180 := zlsum_180 (r := S.n 0) (c := S.n 1) hB
  have hrc : S.n 0 * S.n 1 ≤ 3 * 3 := Nat.mul_le_mul b2 b4
  have hrc0 : 0 < S.n 0 * S.n 1 := Nat.mul_pos b1 b3
  refine z_iload_n (pc := 0) dX10_mean_0 rfl rfl ?_
  refine z_callS (pc := 1) c_X10_isPart dX10_mean_1 l_RX10_187 m_MX10_isPart s_MX10_isPart rfl (by omega) rfl (Nat.le_of_ble_eq_true rfl) ?_
  rintro _ _ _ ⟨⟨rfl, rfl | rfl⟩ | ⟨rfl, hp0, hp1⟩, rfl, rfl⟩
  · skip
    try dsimp only [zov, Option.toList, List.cons_append, List.nil_append]
    first | refine z_if_neN (pc := 4) (tgt := 11) (by with_reducible rfl) dX10_mean_4 (by decide) (by omega) (fun hb4 => ?_) (fun hb4 => absurd hb4 (by decide)) | refine z_if_ne (pc := 4) (tgt := 11) dX10_mean_4 (by decide) (fun hb4 => ?_) (fun hb4 => absurd hb4 (by decide))
    · skip
      refine z_aload_n (pc := 11) dX10_mean_11 rfl rfl ?_
      refine z_aload_n (pc := 12) dX10_mean_12 rfl rfl ?_
      refine z_callV (pc := 13) (c_X10_allCounts hM hW hB) dX10_mean_13 l_RX10_226 m_MX10_allCounts n_MX10_allCounts e_MX10_allCounts rfl (by omega) (by assumption) rfl rfl (Nat.le_of_ble_eq_true rfl) ?_
      rintro _ _ _ (⟨rfl, rfl, rfl⟩)
      try dsimp only [zov, Option.toList, List.cons_append, List.nil_append]
      first | refine z_i2lN (pc := 16) (by with_reducible rfl) dX10_mean_16 (by omega) ?_ | refine z_i2l (pc := 16) dX10_mean_16 rfl ?_
      refine z_aload_n (pc := 17) dX10_mean_17 rfl rfl ?_
      refine z_getR (pc := 18) dX10_mean_18 f_RX10_11 (by assumption) rfl ?_
      refine z_iconst (pc := 21) (v := nI 0) dX10_mean_21 (by decide) ?_
      refine z_ialoadv (pc := 22) dX10_mean_22 (by assumption) (by with_reducible rfl) (by omega) (by decide) (by first | assumption | exact hW _ (by omega) | exact (zup_n _ _ (by decide)).trans (zup_s _ _ _ _) | exact zup_s _ _ _ _ | rfl) ?_
      first | refine z_i2lN (pc := 23) (by with_reducible rfl) dX10_mean_23 (by omega) ?_ | refine z_i2l (pc := 23) dX10_mean_23 rfl ?_
      refine z_aload_n (pc := 24) dX10_mean_24 rfl rfl ?_
      refine z_getR (pc := 25) dX10_mean_25 f_RX10_11 (by assumption) rfl ?_
      refine z_iconst (pc := 28) (v := nI 1) dX10_mean_28 (by decide) ?_
      refine z_ialoadv (pc := 29) dX10_mean_29 (by assumption) (by with_reducible rfl) (by omega) (by decide) (by first | assumption | exact hW _ (by omega) | exact (zup_n _ _ (by decide)).trans (zup_s _ _ _ _) | exact zup_s _ _ _ _ | rfl) ?_
      first | refine z_i2lN (pc := 30) (by with_reducible rfl) dX10_mean_30 (by omega) ?_ | refine z_i2l (pc := 30) dX10_mean_30 rfl ?_
      first | refine z_lmulN (pc := 31) (by with_reducible rfl) (by with_reducible rfl) dX10_mean_31 ?_ | refine z_lmul (pc := 31) dX10_mean_31 ?_
      refine z_callV (pc := 32) (c_X10_worksOut (x := zlsum (fun k => S.n (7 + k)) (zl (S.n 0) (S.n 1) 0)) (y := S.n 0 * S.n 1) hM (by omega) (by omega) hrc0) dX10_mean_32 l_RX10_156 m_MX10_worksOut n_MX10_worksOut e_MX10_worksOut rfl (by omega) (by assumption) rfl rfl (Nat.le_of_ble_eq_true rfl) ?_
      rintro _ _ _ ⟨⟨rfl, hok⟩ | ⟨rfl, hok⟩, rfl, rfl⟩
      · skip
        try dsimp only [zov, Option.toList, List.cons_append, List.nil_append]
        refine z_pop (pc := 35) dX10_mean_35 rfl ?_
        refine z_iload_n (pc := 36) dX10_mean_36 rfl rfl ?_
        first | refine z_if_neN (pc := 37) (tgt := 47) (by with_reducible rfl) dX10_mean_37 (by decide) (by omega) (fun hb37 => ?_) (fun hb37 => ?_) | refine z_if_ne (pc := 37) (tgt := 47) dX10_mean_37 (by decide) (fun hb37 => ?_) (fun hb37 => ?_)
        · skip
          refine z_aload_n (pc := 47) dX10_mean_47 rfl rfl ?_
          refine z_getJv (pc := 48) dX10_mean_48 f_RX10_151 (by assumption) rfl (by first | assumption | exact hW _ (by omega) | exact (zup_n _ _ (by decide)).trans (zup_s _ _ _ _) | exact zup_s _ _ _ _ | rfl) ?_
          refine z_lret (pc := 51) dX10_mean_51 rfl ?_
          first
            | exact zPM_same hV (fmean_n (zp01_n hp0 hp1))
            | exact zPM_keep hV (zmI_r _) (zw2_m zw2_u) fmean_0
            | exact zPM_keep hV (zmI_r _) (zw2_m zw2_u) fmean_1
            | exact absurd rfl hb37
            | exact absurd hb37 (by decide)
            | fail
        · skip
          refine z_aload_n (pc := 40) dX10_mean_40 rfl rfl ?_
          refine z_getJv (pc := 41) dX10_mean_41 f_RX10_147 (by assumption) rfl (by first | assumption | exact hW _ (by omega) | exact (zup_n _ _ (by decide)).trans (zup_s _ _ _ _) | exact zup_s _ _ _ _ | rfl) ?_
          refine z_goto (pc := 44) (tgt := 51) dX10_mean_44 (by decide) ?_
          refine z_lret (pc := 51) dX10_mean_51 rfl ?_
          first
            | exact zPM_same hV (fmean_n (zp01_n hp0 hp1))
            | exact zPM_keep hV (zmI_r _) (zw2_m zw2_u) fmean_0
            | exact zPM_keep hV (zmI_r _) (zw2_m zw2_u) fmean_1
            | exact absurd rfl hb37
            | exact absurd hb37 (by decide)
            | fail
      · skip
        try dsimp only [zov, Option.toList, List.cons_append, List.nil_append]
        refine z_pop (pc := 35) dX10_mean_35 rfl ?_
        refine z_iload_n (pc := 36) dX10_mean_36 rfl rfl ?_
        first | refine z_if_neN (pc := 37) (tgt := 47) (by with_reducible rfl) dX10_mean_37 (by decide) (by omega) (fun hb37 => ?_) (fun hb37 => ?_) | refine z_if_ne (pc := 37) (tgt := 47) dX10_mean_37 (by decide) (fun hb37 => ?_) (fun hb37 => ?_)
        · skip
          refine z_aload_n (pc := 47) dX10_mean_47 rfl rfl ?_
          refine z_getJv (pc := 48) dX10_mean_48 f_RX10_151 (by assumption) rfl (by first | assumption | exact hW _ (by omega) | exact (zup_n _ _ (by decide)).trans (zup_s _ _ _ _) | exact zup_s _ _ _ _ | rfl) ?_
          refine z_lret (pc := 51) dX10_mean_51 rfl ?_
          first
            | exact zPM_same hV (fmean_n (zp01_n hp0 hp1))
            | exact zPM_keep hV (zmI_r _) (zw2_m zw2_u) fmean_0
            | exact zPM_keep hV (zmI_r _) (zw2_m zw2_u) fmean_1
            | exact absurd rfl hb37
            | exact absurd hb37 (by decide)
            | fail
        · skip
          refine z_aload_n (pc := 40) dX10_mean_40 rfl rfl ?_
          refine z_getJv (pc := 41) dX10_mean_41 f_RX10_147 (by assumption) rfl (by first | assumption | exact hW _ (by omega) | exact (zup_n _ _ (by decide)).trans (zup_s _ _ _ _) | exact zup_s _ _ _ _ | rfl) ?_
          refine z_goto (pc := 44) (tgt := 51) dX10_mean_44 (by decide) ?_
          refine z_lret (pc := 51) dX10_mean_51 rfl ?_
          first
            | exact zPM_same hV (fmean_n (zp01_n hp0 hp1))
            | exact zPM_keep hV (zmI_r _) (zw2_m zw2_u) fmean_0
            | exact zPM_keep hV (zmI_r _) (zw2_m zw2_u) fmean_1
            | exact absurd rfl hb37
            | exact absurd hb37 (by decide)
            | fail
  · skip
    try dsimp only [zov, Option.toList, List.cons_append, List.nil_append]
    first | refine z_if_neN (pc := 4) (tgt := 11) (by with_reducible rfl) dX10_mean_4 (by decide) (by omega) (fun hb4 => ?_) (fun hb4 => absurd hb4 (by decide)) | refine z_if_ne (pc := 4) (tgt := 11) dX10_mean_4 (by decide) (fun hb4 => ?_) (fun hb4 => absurd hb4 (by decide))
    · skip
      refine z_aload_n (pc := 11) dX10_mean_11 rfl rfl ?_
      refine z_aload_n (pc := 12) dX10_mean_12 rfl rfl ?_
      refine z_callV (pc := 13) (c_X10_allCounts hM hW hB) dX10_mean_13 l_RX10_226 m_MX10_allCounts n_MX10_allCounts e_MX10_allCounts rfl (by omega) (by assumption) rfl rfl (Nat.le_of_ble_eq_true rfl) ?_
      rintro _ _ _ (⟨rfl, rfl, rfl⟩)
      try dsimp only [zov, Option.toList, List.cons_append, List.nil_append]
      first | refine z_i2lN (pc := 16) (by with_reducible rfl) dX10_mean_16 (by omega) ?_ | refine z_i2l (pc := 16) dX10_mean_16 rfl ?_
      refine z_aload_n (pc := 17) dX10_mean_17 rfl rfl ?_
      refine z_getR (pc := 18) dX10_mean_18 f_RX10_11 (by assumption) rfl ?_
      refine z_iconst (pc := 21) (v := nI 0) dX10_mean_21 (by decide) ?_
      refine z_ialoadv (pc := 22) dX10_mean_22 (by assumption) (by with_reducible rfl) (by omega) (by decide) (by first | assumption | exact hW _ (by omega) | exact (zup_n _ _ (by decide)).trans (zup_s _ _ _ _) | exact zup_s _ _ _ _ | rfl) ?_
      first | refine z_i2lN (pc := 23) (by with_reducible rfl) dX10_mean_23 (by omega) ?_ | refine z_i2l (pc := 23) dX10_mean_23 rfl ?_
      refine z_aload_n (pc := 24) dX10_mean_24 rfl rfl ?_
      refine z_getR (pc := 25) dX10_mean_25 f_RX10_11 (by assumption) rfl ?_
      refine z_iconst (pc := 28) (v := nI 1) dX10_mean_28 (by decide) ?_
      refine z_ialoadv (pc := 29) dX10_mean_29 (by assumption) (by with_reducible rfl) (by omega) (by decide) (by first | assumption | exact hW _ (by omega) | exact (zup_n _ _ (by decide)).trans (zup_s _ _ _ _) | exact zup_s _ _ _ _ | rfl) ?_
      first | refine z_i2lN (pc := 30) (by with_reducible rfl) dX10_mean_30 (by omega) ?_ | refine z_i2l (pc := 30) dX10_mean_30 rfl ?_
      first | refine z_lmulN (pc := 31) (by with_reducible rfl) (by with_reducible rfl) dX10_mean_31 ?_ | refine z_lmul (pc := 31) dX10_mean_31 ?_
      refine z_callV (pc := 32) (c_X10_worksOut (x := zlsum (fun k => S.n (7 + k)) (zl (S.n 0) (S.n 1) 0)) (y := S.n 0 * S.n 1) hM (by omega) (by omega) hrc0) dX10_mean_32 l_RX10_156 m_MX10_worksOut n_MX10_worksOut e_MX10_worksOut rfl (by omega) (by assumption) rfl rfl (Nat.le_of_ble_eq_true rfl) ?_
      rintro _ _ _ ⟨⟨rfl, hok⟩ | ⟨rfl, hok⟩, rfl, rfl⟩
      · skip
        try dsimp only [zov, Option.toList, List.cons_append, List.nil_append]
        refine z_pop (pc := 35) dX10_mean_35 rfl ?_
        refine z_iload_n (pc := 36) dX10_mean_36 rfl rfl ?_
        first | refine z_if_neN (pc := 37) (tgt := 47) (by with_reducible rfl) dX10_mean_37 (by decide) (by omega) (fun hb37 => ?_) (fun hb37 => ?_) | refine z_if_ne (pc := 37) (tgt := 47) dX10_mean_37 (by decide) (fun hb37 => ?_) (fun hb37 => ?_)
        · skip
          refine z_aload_n (pc := 47) dX10_mean_47 rfl rfl ?_
          refine z_getJv (pc := 48) dX10_mean_48 f_RX10_151 (by assumption) rfl (by first | assumption | exact hW _ (by omega) | exact (zup_n _ _ (by decide)).trans (zup_s _ _ _ _) | exact zup_s _ _ _ _ | rfl) ?_
          refine z_lret (pc := 51) dX10_mean_51 rfl ?_
          first
            | exact zPM_same hV (fmean_n (zp01_n hp0 hp1))
            | exact zPM_keep hV (zmI_r _) (zw2_m zw2_u) fmean_0
            | exact zPM_keep hV (zmI_r _) (zw2_m zw2_u) fmean_1
            | exact absurd rfl hb37
            | exact absurd hb37 (by decide)
            | fail
        · skip
          refine z_aload_n (pc := 40) dX10_mean_40 rfl rfl ?_
          refine z_getJv (pc := 41) dX10_mean_41 f_RX10_147 (by assumption) rfl (by first | assumption | exact hW _ (by omega) | exact (zup_n _ _ (by decide)).trans (zup_s _ _ _ _) | exact zup_s _ _ _ _ | rfl) ?_
          refine z_goto (pc := 44) (tgt := 51) dX10_mean_44 (by decide) ?_
          refine z_lret (pc := 51) dX10_mean_51 rfl ?_
          first
            | exact zPM_same hV (fmean_n (zp01_n hp0 hp1))
            | exact zPM_keep hV (zmI_r _) (zw2_m zw2_u) fmean_0
            | exact zPM_keep hV (zmI_r _) (zw2_m zw2_u) fmean_1
            | exact absurd rfl hb37
            | exact absurd hb37 (by decide)
            | fail
      · skip
        try dsimp only [zov, Option.toList, List.cons_append, List.nil_append]
        refine z_pop (pc := 35) dX10_mean_35 rfl ?_
        refine z_iload_n (pc := 36) dX10_mean_36 rfl rfl ?_
        first | refine z_if_neN (pc := 37) (tgt := 47) (by with_reducible rfl) dX10_mean_37 (by decide) (by omega) (fun hb37 => ?_) (fun hb37 => ?_) | refine z_if_ne (pc := 37) (tgt := 47) dX10_mean_37 (by decide) (fun hb37 => ?_) (fun hb37 => ?_)
        · skip
          refine z_aload_n (pc := 47) dX10_mean_47 rfl rfl ?_
          refine z_getJv (pc := 48) dX10_mean_48 f_RX10_151 (by assumption) rfl (by first | assumption | exact hW _ (by omega) | exact (zup_n _ _ (by decide)).trans (zup_s _ _ _ _) | exact zup_s _ _ _ _ | rfl) ?_
          refine z_lret (pc := 51) dX10_mean_51 rfl ?_
          first
            | exact zPM_same hV (fmean_n (zp01_n hp0 hp1))
            | exact zPM_keep hV (zmI_r _) (zw2_m zw2_u) fmean_0
            | exact zPM_keep hV (zmI_r _) (zw2_m zw2_u) fmean_1
            | exact absurd rfl hb37
            | exact absurd hb37 (by decide)
            | fail
        · skip
          refine z_aload_n (pc := 40) dX10_mean_40 rfl rfl ?_
          refine z_getJv (pc := 41) dX10_mean_41 f_RX10_147 (by assumption) rfl (by first | assumption | exact hW _ (by omega) | exact (zup_n _ _ (by decide)).trans (zup_s _ _ _ _) | exact zup_s _ _ _ _ | rfl) ?_
          refine z_goto (pc := 44) (tgt := 51) dX10_mean_44 (by decide) ?_
          refine z_lret (pc := 51) dX10_mean_51 rfl ?_
          first
            | exact zPM_same hV (fmean_n (zp01_n hp0 hp1))
            | exact zPM_keep hV (zmI_r _) (zw2_m zw2_u) fmean_0
            | exact zPM_keep hV (zmI_r _) (zw2_m zw2_u) fmean_1
            | exact absurd rfl hb37
            | exact absurd hb37 (by decide)
            | fail
  · skip
    try dsimp only [zov, Option.toList, List.cons_append, List.nil_append]
    first | refine z_if_neN (pc := 4) (tgt := 11) (by with_reducible rfl) dX10_mean_4 (by decide) (by omega) (fun hb4 => absurd hb4 (by decide)) (fun hb4 => ?_) | refine z_if_ne (pc := 4) (tgt := 11) dX10_mean_4 (by decide) (fun hb4 => absurd hb4 (by decide)) (fun hb4 => ?_)
    · skip
      refine z_ldc2 (pc := 7) (v := -9223372036854775808) dX10_mean_7 q_RX10_190 ?_
      refine z_lret (pc := 10) dX10_mean_10 rfl ?_
      first
        | exact zPM_same hV (fmean_n (zp01_n hp0 hp1))
        | exact zPM_keep hV (zmI_r _) (zw2_m zw2_u) fmean_0
        | exact zPM_keep hV (zmI_r _) (zw2_m zw2_u) fmean_1
        | exact absurd rfl hb37
        | exact absurd hb37 (by decide)
        | fail
