/-! ===== the model's calls: gaps, what is told ===== -/
def zw4 (J J' : zJ) : Prop := ∀ x y, x ≠ 79 → J' x y = J x y
theorem zw4_r (J : zJ) : zw4 J J := fun _ _ _ => rfl
theorem zw4_t {J J1 J2 : zJ} (h : zw4 J J1) (h2 : zw4 J1 J2) : zw4 J J2 := fun x y q => (h2 x y q).trans (h x y q)
theorem zw4_u {J : zJ} {k : Nat} {a : Int64} : zw4 J (zup J 79 k a) := fun x y q => zup_n _ _ (by omega)
theorem zw4_2 {J J' : zJ} (h : zw2 J J') : zw4 J J' := fun x y q => h x y (by omega)
theorem zw4_m {J J' : zJ} (h : zw4 J J') : zmJ J J' := fun x y q => h x y q.1
/-- the widest gap so far, in its fields -/
def zgb (J : zJ) (b : Option Nat × (Nat × Nat)) : Prop := J 79 12 = lN b.2.1 ∧ J 79 13 = lN b.2.2 ∧ b.2.1 ≤ 60000000 ∧ 1 ≤ b.2.2 ∧ b.2.2 ≤ 999999 ∧ (b.1 = none ∨ ∃ x, b.1 = some x ∧ x ≤ 22)
theorem zin_m {b : Option Nat × (Nat × Nat)} {J : zJ} (h : zgb J b) (hb : zin b.1 = -1) : b.1 = none := by
  rcases h.2.2.2.2.2 with e | ⟨x, e, hx⟩
  · exact e
  · rw [e] at hb
    have hb : nI x = -1 := hb
    have h3 := congrArg Int32.toInt hb
    rw [nI_toInt (by omega)] at h3
    have h4 : (-1 : Int32).toInt = -1 := by decide
    omega
theorem zin_6 {b : Option Nat × (Nat × Nat)} {J : zJ} (h : zgb J b) : zin b.1 ≠ -6 := by
  intro hb
  rcases h.2.2.2.2.2 with e | ⟨x, e, hx⟩
  · rw [e] at hb; exact absurd hb (by decide)
  · rw [e] at hb
    exact nI_n6 (a := x) (by omega) hb
theorem zgb_new {J : zJ} {w l : Nat} {s : Nat × Nat} (hw : w ≤ 2) (hl : l ≤ 2) (h1 : s.1 ≤ 60000000) (h2 : 1 ≤ s.2) (h3 : s.2 ≤ 999999) : zgb (zup (zup J 79 12 (lN s.1)) 79 13 (lN s.2)) (some (10 * w + l), s) := ⟨(zup_n _ _ (by decide)).trans (zup_s _ _ _ _), zup_s _ _ _ _, h1, h2, h3, Or.inr ⟨_, rfl, by omega⟩⟩
theorem zgb_old {J J1 : zJ} {b : Option Nat × (Nat × Nat)} {u v : Int64} (h : zgb J b) (hj : zw2 J J1) : zgb (zup (zup J1 79 7 u) 79 8 v) b := by
  obtain ⟨h1, h2, h3⟩ := h
  exact ⟨(zup_n _ _ (by decide)).trans ((zup_n _ _ (by decide)).trans ((hj 79 12 (by decide)).trans h1)), (zup_n _ _ (by decide)).trans ((zup_n _ _ (by decide)).trans ((hj 79 13 (by decide)).trans h2)), h3⟩
theorem zwb_y {b : Option Nat × (Nat × Nat)} {w l : Nat} {s : Nat × Nat} (h : b.1 = none ∨ b.2.1 * s.2 < s.1 * b.2.2) : zwb b w l s = (some (10 * w + l), s) := if_pos h
theorem zwb_n {b : Option Nat × (Nat × Nat)} {w l : Nat} {s : Nat × Nat} (h0 : ¬ b.1 = none) (h : ¬ b.2.1 * s.2 < s.1 * b.2.2) : zwb b w l s = b := if_neg (fun q => q.elim h0 h)
set_option maxHeartbeats 2000000 in
set_option maxRecDepth 20000 in
theorem l_X10_farthest {lay : List zL} {Q : Value → zI → zJ → Prop} {n : Nat → Nat} {d : Nat} {I : zI} {J0 : zJ} (hM : kM lay) (hW : vW I n) (hB : bS n) (hT : bT n) : ∀ (m w l : Nat) (b : Option Nat × (Nat × Nat)) (J : zJ), 5 * (3 - w) + (4 - l) < m → w < 2 + n 2 → l ≤ zlines (n 0) (n 1) w → zgb J b → zw4 J0 J → (∀ b' J', zwr n w l b = some b' → zgb J' b' → zw4 J0 J' → Q (.int (zin b'.1)) I J') → (∀ J', zwr n w l b = none → zw4 J0 J' → Q (.int (-6)) I J') → Z lay MX10_farthest (d + 5) 28 [.ref 79, .int (zin b.1), .int (nI w), .int (nI l)] [] I J Q := by
  intro m
  induction m with
  | zero => intro w l b J h; exact absurd h (by omega)
  | succ m ih =>
    intro w l b J hm hw hl hb0 hf hy hn
    obtain ⟨mo, m80, m81, m82, m83, m84, m85, m86, m87, m88, m89, m90, m91, m92, m93, m94, m95, m96⟩ := id hM
    have hwv := hW
    obtain ⟨b1, b2, b3, b4, b5, b6, b7, b8⟩ := id hB
    have hz := zlines_le (w := w) b2 b4
    have hz1 : 1 ≤ zlines (n 0) (n 1) w := (by unfold zlines; split; omega; split <;> omega)
    refine z_iload_n (pc := 28) dX10_farthest_28 rfl rfl ?_
    refine z_aload_n (pc := 29) dX10_farthest_29 rfl rfl ?_
    refine z_iload_n (pc := 30) dX10_farthest_30 rfl rfl ?_
    refine z_callV (pc := 31) (c_X10_linesOf hM hW hB (by omega)) dX10_farthest_31 l_RX10_78 m_MX10_linesOf n_MX10_linesOf e_MX10_linesOf rfl (by omega) (by assumption) rfl rfl (Nat.le_of_ble_eq_true rfl) ?_
    rintro _ _ _ (⟨rfl, rfl, rfl⟩)
    try dsimp only [zov, Option.toList, List.cons_append, List.nil_append]
    first | refine z_icmp_geN (pc := 34) (tgt := 115) (by with_reducible rfl) (by with_reducible rfl) dX10_farthest_34 (by decide) (by omega) (by omega) (fun hb34 => ?_) (fun hb34 => ?_) | refine z_icmp_ge (pc := 34) (tgt := 115) dX10_farthest_34 (by decide) (fun hb34 => ?_) (fun hb34 => ?_)
    · skip
      first | refine z_iincN (pc := 115) (c := 1) dX10_farthest_115 rfl (by with_reducible rfl) (by decide) (by decide) rfl ?_ | refine z_iinc (pc := 115) dX10_farthest_115 rfl rfl (by decide) rfl ?_
      try dsimp only [zst1, zst2, zk]
      refine z_goto (pc := 118) (tgt := 14) dX10_farthest_118 (by decide) ?_
      refine z_iload_n (pc := 14) dX10_farthest_14 rfl rfl ?_
      refine z_iconst (pc := 15) (v := nI 1) dX10_farthest_15 (by decide) ?_
      refine z_aload_n (pc := 16) dX10_farthest_16 rfl rfl ?_
      refine z_getR (pc := 17) dX10_farthest_17 f_RX10_11 (by assumption) rfl ?_
      refine z_iconst (pc := 20) (v := nI 2) dX10_farthest_20 (by decide) ?_
      refine z_ialoadv (pc := 21) dX10_farthest_21 (by assumption) (by with_reducible rfl) (by omega) (by decide) (by first | assumption | exact hW _ (by omega) | exact (zup_n _ _ (by decide)).trans (zup_s _ _ _ _) | exact zup_s _ _ _ _ | exact hb1.1 | exact hb1.2.1 | rfl) ?_
      first | refine z_iaddN (pc := 22) (by with_reducible rfl) (by with_reducible rfl) dX10_farthest_22 ?_ | refine z_iadd (pc := 22) dX10_farthest_22 ?_
      first | refine z_icmp_gtN (pc := 23) (tgt := 121) (by with_reducible rfl) (by with_reducible rfl) dX10_farthest_23 (by decide) (by omega) (by omega) (fun hb23 => ?_) (fun hb23 => ?_) | refine z_icmp_gt (pc := 23) (tgt := 121) dX10_farthest_23 (by decide) (fun hb23 => ?_) (fun hb23 => ?_)
      · skip
        refine z_iload_n (pc := 121) dX10_farthest_121 rfl rfl ?_
        refine z_iret (pc := 122) dX10_farthest_122 rfl ?_
        first
        | exact hn _ (zwr_none (by omega) (zgp_n hq)) (zw4_t hf (zw4_2 hj))
        | exact hy b _ (zwr_end (by omega) (by omega)) hb0 hf
        | fail
      · skip
        refine z_iconst (pc := 26) (v := nI 0) dX10_farthest_26 (by decide) ?_
        refine z_istore_n (pc := 27) dX10_farthest_27 rfl (by decide) rfl ?_
        try dsimp only [zst1, zst2, zk]
        first
        | (have e : zwb b w l (zgq (n (25 + (3 * w + l))) q) = _ := zwb_y (by first | exact Or.inl (zin_m hb0 hb61) | exact Or.inr (by omega))
           exact ih w (l + 1) _ _ (by omega) hw (by omega) (zgb_new (by omega) (by omega) g1 g2 g3) (zw4_t (zw4_t (zw4_t (zw4_t hf (zw4_2 hj)) (zw4_2 zw2_u)) zw4_u) zw4_u) (fun b' J' h1 => hy b' J' (by rw [zwr_some (by omega) hgq, e]; exact h1)) (fun J' h1 => hn J' (by rw [zwr_some (by omega) hgq, e]; exact h1)))
        | (have e : zwb b w l (zgq (n (25 + (3 * w + l))) q) = b := zwb_n (fun h => hb61 (by rw [h]; rfl)) (by omega)
           exact ih w (l + 1) b _ (by omega) hw (by omega) hb1 (zw4_t (zw4_t hf (zw4_2 hj)) (zw4_2 zw2_u)) (fun b' J' h1 => hy b' J' (by rw [zwr_some (by omega) hgq, e]; exact h1)) (fun J' h1 => hn J' (by rw [zwr_some (by omega) hgq, e]; exact h1)))
        | exact ih (w + 1) 0 b _ (by omega) (by omega) (by omega) hb0 hf (fun b' J' h1 => hy b' J' (by rw [zwr_next (by omega) (by omega)]; exact h1)) (fun J' h1 => hn J' (by rw [zwr_next (by omega) (by omega)]; exact h1))
        | fail
    · skip
      refine z_aload_n (pc := 37) dX10_farthest_37 rfl rfl ?_
      refine z_iload_n (pc := 38) dX10_farthest_38 rfl rfl ?_
      refine z_iload_n (pc := 39) dX10_farthest_39 rfl rfl ?_
      refine z_callV (pc := 40) (c_X10_sums hM hW hB hT (by omega) (by omega)) dX10_farthest_40 l_RX10_167 m_MX10_sums n_MX10_sums e_MX10_sums rfl (by omega) (by assumption) rfl rfl (Nat.le_of_ble_eq_true rfl) ?_
      rintro _ _ _ ⟨⟨rfl, q, hq, hqb, hab⟩ | ⟨rfl, hq⟩, rfl, hj⟩
      · have hgq := zgp_q hq; obtain ⟨g1, g2, g3, g4⟩ := zgp_bd hB hT (by omega) hgq
        try dsimp only [zov, Option.toList, List.cons_append, List.nil_append]
        first | refine z_if_neN (pc := 43) (tgt := 49) (by with_reducible rfl) dX10_farthest_43 (by decide) (by omega) (fun hb43 => ?_) (fun hb43 => absurd hb43 (by decide)) | refine z_if_ne (pc := 43) (tgt := 49) dX10_farthest_43 (by decide) (fun hb43 => ?_) (fun hb43 => absurd hb43 (by decide))
        · skip
          refine z_aload_n (pc := 49) dX10_farthest_49 rfl rfl ?_
          refine z_aload_n (pc := 50) dX10_farthest_50 rfl rfl ?_
          refine z_iload_n (pc := 51) dX10_farthest_51 rfl rfl ?_
          refine z_iload_n (pc := 52) dX10_farthest_52 rfl rfl ?_
          refine z_callV (pc := 53) (c_X10_marginAt hM hW (by omega) (by omega)) dX10_farthest_53 l_RX10_102 m_MX10_marginAt n_MX10_marginAt e_MX10_marginAt rfl (by omega) (by assumption) rfl rfl (Nat.le_of_ble_eq_true rfl) ?_
          rintro _ _ _ (⟨rfl, rfl, rfl⟩)
          try dsimp only [zov, Option.toList, List.cons_append, List.nil_append]
          refine z_callV (pc := 56) (c_X10_gaps hM (b8 _ (by omega)) hqb hab) dX10_farthest_56 l_RX10_192 m_MX10_gaps n_MX10_gaps e_MX10_gaps rfl (by omega) (by assumption) rfl rfl (Nat.le_of_ble_eq_true rfl) ?_
          rintro _ _ _ (⟨rfl, rfl, rfl⟩)
          have hb1 := zgb_old (u := lN (zgq (n (25 + (3 * w + l))) q).1) (v := lN (zgq (n (25 + (3 * w + l))) q).2) hb0 hj
          have hp1 : (zgq (n (25 + (3 * w + l))) q).1 * b.2.2 < 9223372036854775808 := Nat.lt_of_le_of_lt (Nat.mul_le_mul g1 hb1.2.2.2.2.1) (by decide)
          have hp2 : b.2.1 * (zgq (n (25 + (3 * w + l))) q).2 < 9223372036854775808 := Nat.lt_of_le_of_lt (Nat.mul_le_mul hb1.2.2.1 g3) (by decide)
          try dsimp only [zov, Option.toList, List.cons_append, List.nil_append]
          refine z_iload_n (pc := 59) dX10_farthest_59 rfl rfl ?_
          refine z_iconst (pc := 60) (v := -1) dX10_farthest_60 (by decide) ?_
          refine z_icmp_eq (pc := 61) (tgt := 86) dX10_farthest_61 (by decide) (fun hb61 => ?_) (fun hb61 => ?_)
          · skip
            refine z_bipush (pc := 86) (v := nI 10) dX10_farthest_86 (by decide) ?_
            refine z_iload_n (pc := 88) dX10_farthest_88 rfl rfl ?_
            first | refine z_imulN (pc := 89) (by with_reducible rfl) (by with_reducible rfl) dX10_farthest_89 ?_ | refine z_imul (pc := 89) dX10_farthest_89 ?_
            refine z_iload_n (pc := 90) dX10_farthest_90 rfl rfl ?_
            first | refine z_iaddN (pc := 91) (by with_reducible rfl) (by with_reducible rfl) dX10_farthest_91 ?_ | refine z_iadd (pc := 91) dX10_farthest_91 ?_
            refine z_istore_n (pc := 92) dX10_farthest_92 rfl (by decide) rfl ?_
            try dsimp only [zst1, zst2, zk]
            refine z_aload_n (pc := 93) dX10_farthest_93 rfl rfl ?_
            refine z_aload_n (pc := 94) dX10_farthest_94 rfl rfl ?_
            refine z_getJv (pc := 95) dX10_farthest_95 f_RX10_147 (by assumption) rfl (by first | assumption | exact hW _ (by omega) | exact (zup_n _ _ (by decide)).trans (zup_s _ _ _ _) | exact zup_s _ _ _ _ | exact hb1.1 | exact hb1.2.1 | rfl) ?_
            refine z_putJ (pc := 98) dX10_farthest_98 f_RX10_196 (by assumption) rfl ?_
            refine z_aload_n (pc := 101) dX10_farthest_101 rfl rfl ?_
            refine z_aload_n (pc := 102) dX10_farthest_102 rfl rfl ?_
            refine z_getJv (pc := 103) dX10_farthest_103 f_RX10_151 (by assumption) rfl (by first | assumption | exact hW _ (by omega) | exact (zup_n _ _ (by decide)).trans (zup_s _ _ _ _) | exact zup_s _ _ _ _ | exact hb1.1 | exact hb1.2.1 | rfl) ?_
            refine z_putJ (pc := 106) dX10_farthest_106 f_RX10_199 (by assumption) rfl ?_
            first | refine z_iincN (pc := 109) (c := 1) dX10_farthest_109 rfl (by with_reducible rfl) (by decide) (by decide) rfl ?_ | refine z_iinc (pc := 109) dX10_farthest_109 rfl rfl (by decide) rfl ?_
            try dsimp only [zst1, zst2, zk]
            refine z_goto (pc := 112) (tgt := 28) dX10_farthest_112 (by decide) ?_
            first
            | (have e : zwb b w l (zgq (n (25 + (3 * w + l))) q) = _ := zwb_y (by first | exact Or.inl (zin_m hb0 hb61) | exact Or.inr (by omega))
               exact ih w (l + 1) _ _ (by omega) hw (by omega) (zgb_new (by omega) (by omega) g1 g2 g3) (zw4_t (zw4_t (zw4_t (zw4_t hf (zw4_2 hj)) (zw4_2 zw2_u)) zw4_u) zw4_u) (fun b' J' h1 => hy b' J' (by rw [zwr_some (by omega) hgq, e]; exact h1)) (fun J' h1 => hn J' (by rw [zwr_some (by omega) hgq, e]; exact h1)))
            | (have e : zwb b w l (zgq (n (25 + (3 * w + l))) q) = b := zwb_n (fun h => hb61 (by rw [h]; rfl)) (by omega)
               exact ih w (l + 1) b _ (by omega) hw (by omega) hb1 (zw4_t (zw4_t hf (zw4_2 hj)) (zw4_2 zw2_u)) (fun b' J' h1 => hy b' J' (by rw [zwr_some (by omega) hgq, e]; exact h1)) (fun J' h1 => hn J' (by rw [zwr_some (by omega) hgq, e]; exact h1)))
            | exact ih (w + 1) 0 b _ (by omega) (by omega) (by omega) hb0 hf (fun b' J' h1 => hy b' J' (by rw [zwr_next (by omega) (by omega)]; exact h1)) (fun J' h1 => hn J' (by rw [zwr_next (by omega) (by omega)]; exact h1))
            | fail
          · skip
            refine z_aload_n (pc := 64) dX10_farthest_64 rfl rfl ?_
            refine z_getJv (pc := 65) dX10_farthest_65 f_RX10_147 (by assumption) rfl (by first | assumption | exact hW _ (by omega) | exact (zup_n _ _ (by decide)).trans (zup_s _ _ _ _) | exact zup_s _ _ _ _ | exact hb1.1 | exact hb1.2.1 | rfl) ?_
            refine z_aload_n (pc := 68) dX10_farthest_68 rfl rfl ?_
            refine z_getJv (pc := 69) dX10_farthest_69 f_RX10_199 (by assumption) rfl (by first | assumption | exact hW _ (by omega) | exact (zup_n _ _ (by decide)).trans (zup_s _ _ _ _) | exact zup_s _ _ _ _ | exact hb1.1 | exact hb1.2.1 | rfl) ?_
            first | refine z_lmulN (pc := 72) (by with_reducible rfl) (by with_reducible rfl) dX10_farthest_72 ?_ | refine z_lmul (pc := 72) dX10_farthest_72 ?_
            refine z_aload_n (pc := 73) dX10_farthest_73 rfl rfl ?_
            refine z_getJv (pc := 74) dX10_farthest_74 f_RX10_196 (by assumption) rfl (by first | assumption | exact hW _ (by omega) | exact (zup_n _ _ (by decide)).trans (zup_s _ _ _ _) | exact zup_s _ _ _ _ | exact hb1.1 | exact hb1.2.1 | rfl) ?_
            refine z_aload_n (pc := 77) dX10_farthest_77 rfl rfl ?_
            refine z_getJv (pc := 78) dX10_farthest_78 f_RX10_151 (by assumption) rfl (by first | assumption | exact hW _ (by omega) | exact (zup_n _ _ (by decide)).trans (zup_s _ _ _ _) | exact zup_s _ _ _ _ | exact hb1.1 | exact hb1.2.1 | rfl) ?_
            first | refine z_lmulN (pc := 81) (by with_reducible rfl) (by with_reducible rfl) dX10_farthest_81 ?_ | refine z_lmul (pc := 81) dX10_farthest_81 ?_
            first | refine z_lc_leN (pc := 82) (tgt := 109) (by with_reducible rfl) (by with_reducible rfl) dX10_farthest_82 rfl dX10_farthest_83 (by decide) (by omega) (by omega) (fun hb82 => ?_) (fun hb82 => ?_) | refine z_lc_le (pc := 82) (tgt := 109) dX10_farthest_82 rfl dX10_farthest_83 (by decide) (fun hb82 => ?_) (fun hb82 => ?_)
            · skip
              first | refine z_iincN (pc := 109) (c := 1) dX10_farthest_109 rfl (by with_reducible rfl) (by decide) (by decide) rfl ?_ | refine z_iinc (pc := 109) dX10_farthest_109 rfl rfl (by decide) rfl ?_
              try dsimp only [zst1, zst2, zk]
              refine z_goto (pc := 112) (tgt := 28) dX10_farthest_112 (by decide) ?_
              first
              | (have e : zwb b w l (zgq (n (25 + (3 * w + l))) q) = _ := zwb_y (by first | exact Or.inl (zin_m hb0 hb61) | exact Or.inr (by omega))
                 exact ih w (l + 1) _ _ (by omega) hw (by omega) (zgb_new (by omega) (by omega) g1 g2 g3) (zw4_t (zw4_t (zw4_t (zw4_t hf (zw4_2 hj)) (zw4_2 zw2_u)) zw4_u) zw4_u) (fun b' J' h1 => hy b' J' (by rw [zwr_some (by omega) hgq, e]; exact h1)) (fun J' h1 => hn J' (by rw [zwr_some (by omega) hgq, e]; exact h1)))
              | (have e : zwb b w l (zgq (n (25 + (3 * w + l))) q) = b := zwb_n (fun h => hb61 (by rw [h]; rfl)) (by omega)
                 exact ih w (l + 1) b _ (by omega) hw (by omega) hb1 (zw4_t (zw4_t hf (zw4_2 hj)) (zw4_2 zw2_u)) (fun b' J' h1 => hy b' J' (by rw [zwr_some (by omega) hgq, e]; exact h1)) (fun J' h1 => hn J' (by rw [zwr_some (by omega) hgq, e]; exact h1)))
              | exact ih (w + 1) 0 b _ (by omega) (by omega) (by omega) hb0 hf (fun b' J' h1 => hy b' J' (by rw [zwr_next (by omega) (by omega)]; exact h1)) (fun J' h1 => hn J' (by rw [zwr_next (by omega) (by omega)]; exact h1))
              | fail
            · skip
              refine z_bipush (pc := 86) (v := nI 10) dX10_farthest_86 (by decide) ?_
              refine z_iload_n (pc := 88) dX10_farthest_88 rfl rfl ?_
              first | refine z_imulN (pc := 89) (by with_reducible rfl) (by with_reducible rfl) dX10_farthest_89 ?_ | refine z_imul (pc := 89) dX10_farthest_89 ?_
              refine z_iload_n (pc := 90) dX10_farthest_90 rfl rfl ?_
              first | refine z_iaddN (pc := 91) (by with_reducible rfl) (by with_reducible rfl) dX10_farthest_91 ?_ | refine z_iadd (pc := 91) dX10_farthest_91 ?_
              refine z_istore_n (pc := 92) dX10_farthest_92 rfl (by decide) rfl ?_
              try dsimp only [zst1, zst2, zk]
              refine z_aload_n (pc := 93) dX10_farthest_93 rfl rfl ?_
              refine z_aload_n (pc := 94) dX10_farthest_94 rfl rfl ?_
              refine z_getJv (pc := 95) dX10_farthest_95 f_RX10_147 (by assumption) rfl (by first | assumption | exact hW _ (by omega) | exact (zup_n _ _ (by decide)).trans (zup_s _ _ _ _) | exact zup_s _ _ _ _ | exact hb1.1 | exact hb1.2.1 | rfl) ?_
              refine z_putJ (pc := 98) dX10_farthest_98 f_RX10_196 (by assumption) rfl ?_
              refine z_aload_n (pc := 101) dX10_farthest_101 rfl rfl ?_
              refine z_aload_n (pc := 102) dX10_farthest_102 rfl rfl ?_
              refine z_getJv (pc := 103) dX10_farthest_103 f_RX10_151 (by assumption) rfl (by first | assumption | exact hW _ (by omega) | exact (zup_n _ _ (by decide)).trans (zup_s _ _ _ _) | exact zup_s _ _ _ _ | exact hb1.1 | exact hb1.2.1 | rfl) ?_
              refine z_putJ (pc := 106) dX10_farthest_106 f_RX10_199 (by assumption) rfl ?_
              first | refine z_iincN (pc := 109) (c := 1) dX10_farthest_109 rfl (by with_reducible rfl) (by decide) (by decide) rfl ?_ | refine z_iinc (pc := 109) dX10_farthest_109 rfl rfl (by decide) rfl ?_
              try dsimp only [zst1, zst2, zk]
              refine z_goto (pc := 112) (tgt := 28) dX10_farthest_112 (by decide) ?_
              first
              | (have e : zwb b w l (zgq (n (25 + (3 * w + l))) q) = _ := zwb_y (by first | exact Or.inl (zin_m hb0 hb61) | exact Or.inr (by omega))
                 exact ih w (l + 1) _ _ (by omega) hw (by omega) (zgb_new (by omega) (by omega) g1 g2 g3) (zw4_t (zw4_t (zw4_t (zw4_t hf (zw4_2 hj)) (zw4_2 zw2_u)) zw4_u) zw4_u) (fun b' J' h1 => hy b' J' (by rw [zwr_some (by omega) hgq, e]; exact h1)) (fun J' h1 => hn J' (by rw [zwr_some (by omega) hgq, e]; exact h1)))
              | (have e : zwb b w l (zgq (n (25 + (3 * w + l))) q) = b := zwb_n (fun h => hb61 (by rw [h]; rfl)) (by omega)
                 exact ih w (l + 1) b _ (by omega) hw (by omega) hb1 (zw4_t (zw4_t hf (zw4_2 hj)) (zw4_2 zw2_u)) (fun b' J' h1 => hy b' J' (by rw [zwr_some (by omega) hgq, e]; exact h1)) (fun J' h1 => hn J' (by rw [zwr_some (by omega) hgq, e]; exact h1)))
              | exact ih (w + 1) 0 b _ (by omega) (by omega) (by omega) hb0 hf (fun b' J' h1 => hy b' J' (by rw [zwr_next (by omega) (by omega)]; exact h1)) (fun J' h1 => hn J' (by rw [zwr_next (by omega) (by omega)]; exact h1))
              | fail
      · skip
        try dsimp only [zov, Option.toList, List.cons_append, List.nil_append]
        first | refine z_if_neN (pc := 43) (tgt := 49) (by with_reducible rfl) dX10_farthest_43 (by decide) (by omega) (fun hb43 => absurd hb43 (by decide)) (fun hb43 => ?_) | refine z_if_ne (pc := 43) (tgt := 49) dX10_farthest_43 (by decide) (fun hb43 => absurd hb43 (by decide)) (fun hb43 => ?_)
        · skip
          refine z_bipush (pc := 46) (v := -6) dX10_farthest_46 (by decide) ?_
          refine z_iret (pc := 48) dX10_farthest_48 rfl ?_
          first
          | exact hn _ (zwr_none (by omega) (zgp_n hq)) (zw4_t hf (zw4_2 hj))
          | exact hy b _ (zwr_end (by omega) (by omega)) hb0 hf
          | fail
set_option maxHeartbeats 2000000 in
set_option maxRecDepth 20000 in
theorem c_X10_farthest0 {lay : List zL} {I : zI} {J : zJ} {n : Nat → Nat} (hM : kM lay) (hW : vW I n) (hB : bS n) (hT : bT n) : zMet lay MX10_farthest 5 [.ref 79] I J (fun r I' J' => ((∃ b, zwide n = some b ∧ r = .int (zin b.1) ∧ zgb J' b) ∨ (zwide n = none ∧ r = .int (-6))) ∧ I = I' ∧ zw4 J J') := by
  refine zMet_of (t := MX10_farthest) (ls := [.ref 79, .null, .null, .null]) (by decide +kernel) (Nat.le_of_ble_eq_true rfl) rfl ?_
  obtain ⟨mo, m80, m81, m82, m83, m84, m85, m86, m87, m88, m89, m90, m91, m92, m93, m94, m95, m96⟩ := id hM
  have hwv := hW
  obtain ⟨b1, b2, b3, b4, b5, b6, b7, b8⟩ := id hB
  refine z_iconst (pc := 0) (v := -1) dX10_farthest_0 (by decide) ?_
  refine z_istore_n (pc := 1) dX10_farthest_1 rfl (by decide) rfl ?_
  try dsimp only [zst1, zst2, zk]
  refine z_aload_n (pc := 2) dX10_farthest_2 rfl rfl ?_
  refine z_lconst (pc := 3) (v := lN 0) dX10_farthest_3 rfl ?_
  refine z_putJ (pc := 4) dX10_farthest_4 f_RX10_196 (by assumption) rfl ?_
  refine z_aload_n (pc := 7) dX10_farthest_7 rfl rfl ?_
  refine z_lconst (pc := 8) (v := lN 1) dX10_farthest_8 rfl ?_
  refine z_putJ (pc := 9) dX10_farthest_9 f_RX10_199 (by assumption) rfl ?_
  refine z_iconst (pc := 12) (v := nI 0) dX10_farthest_12 (by decide) ?_
  refine z_istore_n (pc := 13) dX10_farthest_13 rfl (by decide) rfl ?_
  try dsimp only [zst1, zst2, zk]
  refine z_iload_n (pc := 14) dX10_farthest_14 rfl rfl ?_
  refine z_iconst (pc := 15) (v := nI 1) dX10_farthest_15 (by decide) ?_
  refine z_aload_n (pc := 16) dX10_farthest_16 rfl rfl ?_
  refine z_getR (pc := 17) dX10_farthest_17 f_RX10_11 (by assumption) rfl ?_
  refine z_iconst (pc := 20) (v := nI 2) dX10_farthest_20 (by decide) ?_
  refine z_ialoadv (pc := 21) dX10_farthest_21 (by assumption) (by with_reducible rfl) (by omega) (by decide) (by first | assumption | exact hW _ (by omega) | rfl) ?_
  first | refine z_iaddN (pc := 22) (by with_reducible rfl) (by with_reducible rfl) dX10_farthest_22 ?_ | refine z_iadd (pc := 22) dX10_farthest_22 ?_
  first | refine z_icmp_gtN (pc := 23) (tgt := 121) (by with_reducible rfl) (by with_reducible rfl) dX10_farthest_23 (by decide) (by omega) (by omega) (fun hb23 => absurd hb23 (by omega)) (fun hb23 => ?_) | refine z_icmp_gt (pc := 23) (tgt := 121) dX10_farthest_23 (by decide) (fun hb23 => absurd hb23 (by omega)) (fun hb23 => ?_)
  · skip
    refine z_iconst (pc := 26) (v := nI 0) dX10_farthest_26 (by decide) ?_
    refine z_istore_n (pc := 27) dX10_farthest_27 rfl (by decide) rfl ?_
    try dsimp only [zst1, zst2, zk]
    exact l_X10_farthest (d := 0) hM hW hB hT 100 0 0 (none, (0, 1)) _ (by omega) (by omega) (by omega) ⟨(zup_n _ _ (by decide)).trans (zup_s _ _ _ _), zup_s _ _ _ _, Nat.zero_le _, Nat.le_refl _, Nat.le_of_ble_eq_true rfl, Or.inl rfl⟩ (zw4_t zw4_u zw4_u) (fun b J1 h1 h2 h3 => ⟨Or.inl ⟨b, zwide_r.trans h1, rfl, h2⟩, rfl, h3⟩) (fun J1 h1 h2 => ⟨Or.inr ⟨zwide_r.trans h1, rfl⟩, rfl, h2⟩)
theorem c_X10_farthest {lay : List zL} {I : zI} {J : zJ} {S : zS} (hM : kM lay) (hV : vM I J S) : zMet lay MX10_farthest 5 [.ref 79] I J (fun r I' J' => zPM I J (ffar S) r I' J') :=
  zMet_to (c_X10_farthest0 hM hV.1.1 hV.1.2.1.1 hV.1.2.1.2.1) (fun r I' J' q => by
    obtain ⟨⟨b, hbw, rfl, hbi⟩ | ⟨hbw, rfl⟩, rfl, hj⟩ := q
    · exact zPM_keep hV (zmI_r _) (zw4_m hj) (by rw [ffar, hbw])
    · exact zPM_keep hV (zmI_r _) (zw4_m hj) (by rw [ffar, hbw]))
theorem ftold_i {S : zS} {w : Int32} : ∃ x, (ftold S w).1 = .int x := ⟨_, rfl⟩
theorem zb79 {J : zJ} {b : Option Nat × (Nat × Nat)} (h : zgb J b) : b.2.1 < 9223372036854775808 := by have := h.2.2.1; omega
set_option maxHeartbeats 2000000 in
set_option maxRecDepth 20000 in
theorem c_X10_settled {lay : List zL} {I : zI} {J : zJ} {S : zS} (hM : kM lay) (hV : vM I J S) : zMet lay MX10_settled 6 [.ref 79] I J (fun r I' J' => zPM I J (ftold S (nI 4)) r I' J') := by
  refine zMet_of (t := MX10_settled) (ls := [.ref 79, .null]) (by decide +kernel) (Nat.le_of_ble_eq_true rfl) rfl ?_
  obtain ⟨mo, m80, m81, m82, m83, m84, m85, m86, m87, m88, m89, m90, m91, m92, m93, m94, m95, m96⟩ := id hM
  have hW : vW I S.n := hV.1.1
  have hb := hV.1.2.1
  have hG := hV.1.2.2
  have hB := hb.1
  have hT := hb.2.1
  obtain ⟨b1, b2, b3, b4, b5, b6, b7, b8⟩ := id hB
  refine z_aload_n (pc := 0) dX10_settled_0 rfl rfl ?_
  refine z_callV (pc := 1) (c_X10_farthest0 hM hW hB hT) dX10_settled_1 l_RX10_217 m_MX10_farthest n_MX10_farthest e_MX10_farthest rfl (by omega) (by assumption) rfl rfl (Nat.le_of_ble_eq_true rfl) ?_
  rintro _ _ _ ⟨⟨b, hbw, rfl, hbi⟩ | ⟨hbw, rfl⟩, rfl, hj⟩
  · have h79 := zb79 hbi
    try dsimp only [zov, Option.toList, List.cons_append, List.nil_append]
    refine z_istore_n (pc := 4) dX10_settled_4 rfl (by decide) rfl ?_
    try dsimp only [zst1, zst2, zk]
    refine z_iload_n (pc := 5) dX10_settled_5 rfl rfl ?_
    refine z_bipush (pc := 6) (v := -6) dX10_settled_6 (by decide) ?_
    refine z_icmp_ne (pc := 8) (tgt := 16) dX10_settled_8 (by decide) (fun hb8 => ?_) (fun hb8 => ?_)
    · skip
      refine z_aload_n (pc := 16) dX10_settled_16 rfl rfl ?_
      refine z_getJv (pc := 17) dX10_settled_17 f_RX10_196 (by assumption) rfl (by first | assumption | exact hbi.1 | rfl) ?_
      refine z_lconst (pc := 20) (v := lN 0) dX10_settled_20 rfl ?_
      first | refine z_lc_neN (pc := 21) (tgt := 29) (by with_reducible rfl) (by with_reducible rfl) dX10_settled_21 rfl dX10_settled_22 (by decide) (by omega) (by omega) (fun hb21 => ?_) (fun hb21 => ?_) | refine z_lc_ne (pc := 21) (tgt := 29) dX10_settled_21 rfl dX10_settled_22 (by decide) (fun hb21 => ?_) (fun hb21 => ?_)
      · skip
        refine z_iconst (pc := 29) (v := nI 0) dX10_settled_29 (by decide) ?_
        refine z_iret (pc := 30) dX10_settled_30 rfl ?_
        first
          | exact absurd hb8 (zin_6 hbi)
          | exact absurd rfl hb8
          | exact zPM_keep hV (zmI_r _) (zw4_m hj) (ftold_4n hbw)
          | exact zPM_keep hV (zmI_r _) (zw4_m hj) (ftold_4y hbw (by omega))
          | exact zPM_keep hV (zmI_r _) (zw4_m hj) (ftold_4z hbw (by omega))
          | fail
      · skip
        refine z_iconst (pc := 25) (v := nI 1) dX10_settled_25 (by decide) ?_
        refine z_goto (pc := 26) (tgt := 30) dX10_settled_26 (by decide) ?_
        refine z_iret (pc := 30) dX10_settled_30 rfl ?_
        first
          | exact absurd hb8 (zin_6 hbi)
          | exact absurd rfl hb8
          | exact zPM_keep hV (zmI_r _) (zw4_m hj) (ftold_4n hbw)
          | exact zPM_keep hV (zmI_r _) (zw4_m hj) (ftold_4y hbw (by omega))
          | exact zPM_keep hV (zmI_r _) (zw4_m hj) (ftold_4z hbw (by omega))
          | fail
    · skip
      refine z_bipush (pc := 11) (v := -6) dX10_settled_11 (by decide) ?_
      refine z_goto (pc := 13) (tgt := 30) dX10_settled_13 (by decide) ?_
      refine z_iret (pc := 30) dX10_settled_30 rfl ?_
      first
        | exact absurd hb8 (zin_6 hbi)
        | exact absurd rfl hb8
        | exact zPM_keep hV (zmI_r _) (zw4_m hj) (ftold_4n hbw)
        | exact zPM_keep hV (zmI_r _) (zw4_m hj) (ftold_4y hbw (by omega))
        | exact zPM_keep hV (zmI_r _) (zw4_m hj) (ftold_4z hbw (by omega))
        | fail
  · skip
    try dsimp only [zov, Option.toList, List.cons_append, List.nil_append]
    refine z_istore_n (pc := 4) dX10_settled_4 rfl (by decide) rfl ?_
    try dsimp only [zst1, zst2, zk]
    refine z_iload_n (pc := 5) dX10_settled_5 rfl rfl ?_
    refine z_bipush (pc := 6) (v := -6) dX10_settled_6 (by decide) ?_
    refine z_icmp_ne (pc := 8) (tgt := 16) dX10_settled_8 (by decide) (fun hb8 => ?_) (fun hb8 => ?_)
    · skip
      refine z_aload_n (pc := 16) dX10_settled_16 rfl rfl ?_
      refine z_getJv (pc := 17) dX10_settled_17 f_RX10_196 (by assumption) rfl (by first | assumption | exact hbi.1 | rfl) ?_
      refine z_lconst (pc := 20) (v := lN 0) dX10_settled_20 rfl ?_
      first | refine z_lc_neN (pc := 21) (tgt := 29) (by with_reducible rfl) (by with_reducible rfl) dX10_settled_21 rfl dX10_settled_22 (by decide) (by omega) (by omega) (fun hb21 => ?_) (fun hb21 => ?_) | refine z_lc_ne (pc := 21) (tgt := 29) dX10_settled_21 rfl dX10_settled_22 (by decide) (fun hb21 => ?_) (fun hb21 => ?_)
      · skip
        refine z_iconst (pc := 29) (v := nI 0) dX10_settled_29 (by decide) ?_
        refine z_iret (pc := 30) dX10_settled_30 rfl ?_
        first
          | exact absurd hb8 (zin_6 hbi)
          | exact absurd rfl hb8
          | exact zPM_keep hV (zmI_r _) (zw4_m hj) (ftold_4n hbw)
          | exact zPM_keep hV (zmI_r _) (zw4_m hj) (ftold_4y hbw (by omega))
          | exact zPM_keep hV (zmI_r _) (zw4_m hj) (ftold_4z hbw (by omega))
          | fail
      · skip
        refine z_iconst (pc := 25) (v := nI 1) dX10_settled_25 (by decide) ?_
        refine z_goto (pc := 26) (tgt := 30) dX10_settled_26 (by decide) ?_
        refine z_iret (pc := 30) dX10_settled_30 rfl ?_
        first
          | exact absurd hb8 (zin_6 hbi)
          | exact absurd rfl hb8
          | exact zPM_keep hV (zmI_r _) (zw4_m hj) (ftold_4n hbw)
          | exact zPM_keep hV (zmI_r _) (zw4_m hj) (ftold_4y hbw (by omega))
          | exact zPM_keep hV (zmI_r _) (zw4_m hj) (ftold_4z hbw (by omega))
          | fail
    · skip
      refine z_bipush (pc := 11) (v := -6) dX10_settled_11 (by decide) ?_
      refine z_goto (pc := 13) (tgt := 30) dX10_settled_13 (by decide) ?_
      refine z_iret (pc := 30) dX10_settled_30 rfl ?_
      first
        | exact absurd hb8 (zin_6 hbi)
        | exact absurd rfl hb8
        | exact zPM_keep hV (zmI_r _) (zw4_m hj) (ftold_4n hbw)
        | exact zPM_keep hV (zmI_r _) (zw4_m hj) (ftold_4y hbw (by omega))
        | exact zPM_keep hV (zmI_r _) (zw4_m hj) (ftold_4z hbw (by omega))
        | fail
set_option maxHeartbeats 2000000 in
set_option maxRecDepth 20000 in
theorem l_X10_rowsTogether {lay : List zL} {Q : Value → zI → zJ → Prop} {n : Nat → Nat} {d : Nat} {I : zI} {J : zJ} (hM : kM lay) (hW : vW I n) (hB : bS n) {g : Nat} (hs : g < 8) : ∀ (m k x : Nat), k + m = n 0 → Q (.int (nI (x + zmsum (zif (zbit g) (fun i => n (25 + i))) m k))) I J → Z lay MX10_rowsTogether (d + 1) 4 [.ref 79, .int (nI g), .int (nI x), .int (nI k)] [] I J Q := by
  obtain ⟨mo, m80, m81, m82, m83, m84, m85, m86, m87, m88, m89, m90, m91, m92, m93, m94, m95, m96⟩ := id hM
  have hwv := hW
  obtain ⟨b1, b2, b3, b4, b5, b6, b7, b8⟩ := id hB
  intro m
  induction m with
  | zero =>
    intro k x hk hq
    refine z_iload_n (pc := 4) dX10_rowsTogether_4 rfl rfl ?_
    refine z_aload_n (pc := 5) dX10_rowsTogether_5 rfl rfl ?_
    refine z_getR (pc := 6) dX10_rowsTogether_6 f_RX10_11 (by assumption) rfl ?_
    refine z_iconst (pc := 9) (v := nI 0) dX10_rowsTogether_9 (by decide) ?_
    refine z_ialoadv (pc := 10) dX10_rowsTogether_10 (by assumption) (by with_reducible rfl) (by omega) (by decide) (by first | assumption | exact hW _ (by omega) | rfl) ?_
    first | refine z_icmp_geN (pc := 11) (tgt := 42) (by with_reducible rfl) (by with_reducible rfl) dX10_rowsTogether_11 (by decide) (by omega) (by omega) (fun hb11 => ?_) (fun hb11 => absurd hb11 (by omega)) | refine z_icmp_ge (pc := 11) (tgt := 42) dX10_rowsTogether_11 (by decide) (fun hb11 => ?_) (fun hb11 => absurd hb11 (by omega))
    · skip
      refine z_iload_n (pc := 42) dX10_rowsTogether_42 rfl rfl ?_
      refine z_iret (pc := 43) dX10_rowsTogether_43 rfl ?_
      exact hq
  | succ m ih =>
    intro k x hk hq
    have hp : g / 2 ^ k % 2 < 2 := Nat.mod_lt _ (by decide)
    refine z_iload_n (pc := 4) dX10_rowsTogether_4 rfl rfl ?_
    refine z_aload_n (pc := 5) dX10_rowsTogether_5 rfl rfl ?_
    refine z_getR (pc := 6) dX10_rowsTogether_6 f_RX10_11 (by assumption) rfl ?_
    refine z_iconst (pc := 9) (v := nI 0) dX10_rowsTogether_9 (by decide) ?_
    refine z_ialoadv (pc := 10) dX10_rowsTogether_10 (by assumption) (by with_reducible rfl) (by omega) (by decide) (by first | assumption | exact hW _ (by omega) | rfl) ?_
    first | refine z_icmp_geN (pc := 11) (tgt := 42) (by with_reducible rfl) (by with_reducible rfl) dX10_rowsTogether_11 (by decide) (by omega) (by omega) (fun hb11 => absurd hb11 (by omega)) (fun hb11 => ?_) | refine z_icmp_ge (pc := 11) (tgt := 42) dX10_rowsTogether_11 (by decide) (fun hb11 => absurd hb11 (by omega)) (fun hb11 => ?_)
    · skip
      refine z_iload_n (pc := 14) dX10_rowsTogether_14 rfl rfl ?_
      refine z_iload_n (pc := 15) dX10_rowsTogether_15 rfl rfl ?_
      refine z_iload_n (pc := 16) dX10_rowsTogether_16 rfl rfl ?_
      refine z_ishr (pc := 17) dX10_rowsTogether_17 ?_
      refine z_iconst (pc := 18) (v := nI 1) dX10_rowsTogether_18 (by decide) ?_
      refine z_iand (pc := 19) dX10_rowsTogether_19 ?_
      rw [z_bit _ hs _ (by omega)]
      refine z_iconst (pc := 20) (v := nI 1) dX10_rowsTogether_20 (by decide) ?_
      first | refine z_icmp_neN (pc := 21) (tgt := 33) (by with_reducible rfl) (by with_reducible rfl) dX10_rowsTogether_21 (by decide) (by omega) (by omega) (fun hb21 => ?_) (fun hb21 => ?_) | refine z_icmp_ne (pc := 21) (tgt := 33) dX10_rowsTogether_21 (by decide) (fun hb21 => ?_) (fun hb21 => ?_)
      · skip
        refine z_iconst (pc := 33) (v := nI 0) dX10_rowsTogether_33 (by decide) ?_
        first | refine z_iaddN (pc := 34) (by with_reducible rfl) (by with_reducible rfl) dX10_rowsTogether_34 ?_ | refine z_iadd (pc := 34) dX10_rowsTogether_34 ?_
        refine z_istore_n (pc := 35) dX10_rowsTogether_35 rfl (by decide) rfl ?_
        try dsimp only [zst1, zst2, zk]
        first | refine z_iincN (pc := 36) (c := 1) dX10_rowsTogether_36 rfl (by with_reducible rfl) (by decide) (by decide) rfl ?_ | refine z_iinc (pc := 36) dX10_rowsTogether_36 rfl rfl (by decide) rfl ?_
        try dsimp only [zst1, zst2, zk]
        refine z_goto (pc := 39) (tgt := 4) dX10_rowsTogether_39 (by decide) ?_
        first | exact ih (k + 1) _ (by omega) (by have e : zif (zbit g) (fun i => n (25 + i)) k = n (25 + k) := (by simp [zif, zbit, hb21]); simp only [zmsum] at hq; rw [e] at hq; rw [Nat.add_assoc]; exact hq) | exact ih (k + 1) _ (by omega) (by have e : zif (zbit g) (fun i => n (25 + i)) k = 0 := (by simp [zif, zbit, hb21]); simp only [zmsum] at hq; rw [e, Nat.zero_add] at hq; exact hq)
      · skip
        refine z_aload_n (pc := 24) dX10_rowsTogether_24 rfl rfl ?_
        refine z_iconst (pc := 25) (v := nI 0) dX10_rowsTogether_25 (by decide) ?_
        refine z_iload_n (pc := 26) dX10_rowsTogether_26 rfl rfl ?_
        refine z_callV (pc := 27) (c_X10_marginAt hM hW (by omega) (by omega)) dX10_rowsTogether_27 l_RX10_102 m_MX10_marginAt n_MX10_marginAt e_MX10_marginAt rfl (by omega) (by assumption) rfl rfl (Nat.le_of_ble_eq_true rfl) ?_
        rintro _ _ _ (⟨rfl, rfl, rfl⟩)
        try dsimp only [zov, Option.toList, List.cons_append, List.nil_append]
        rw [show 3 * 0 + k = k by omega]
        refine z_goto (pc := 30) (tgt := 34) dX10_rowsTogether_30 (by decide) ?_
        first | refine z_iaddN (pc := 34) (by with_reducible rfl) (by with_reducible rfl) dX10_rowsTogether_34 ?_ | refine z_iadd (pc := 34) dX10_rowsTogether_34 ?_
        refine z_istore_n (pc := 35) dX10_rowsTogether_35 rfl (by decide) rfl ?_
        try dsimp only [zst1, zst2, zk]
        first | refine z_iincN (pc := 36) (c := 1) dX10_rowsTogether_36 rfl (by with_reducible rfl) (by decide) (by decide) rfl ?_ | refine z_iinc (pc := 36) dX10_rowsTogether_36 rfl rfl (by decide) rfl ?_
        try dsimp only [zst1, zst2, zk]
        refine z_goto (pc := 39) (tgt := 4) dX10_rowsTogether_39 (by decide) ?_
        first | exact ih (k + 1) _ (by omega) (by have e : zif (zbit g) (fun i => n (25 + i)) k = n (25 + k) := (by simp [zif, zbit, hb21]); simp only [zmsum] at hq; rw [e] at hq; rw [Nat.add_assoc]; exact hq) | exact ih (k + 1) _ (by omega) (by have e : zif (zbit g) (fun i => n (25 + i)) k = 0 := (by simp [zif, zbit, hb21]); simp only [zmsum] at hq; rw [e, Nat.zero_add] at hq; exact hq)
set_option maxHeartbeats 2000000 in
set_option maxRecDepth 20000 in
theorem c_X10_rowsTogether {lay : List zL} {I : zI} {J : zJ} {n : Nat → Nat} (hM : kM lay) (hW : vW I n) (hB : bS n) {g : Nat} (hs : g < 8) : zMet lay MX10_rowsTogether 1 [.ref 79, .int (nI g)] I J (fun r I' J' => r = .int (nI (zmo n g)) ∧ I = I' ∧ J = J') := by
  refine zMet_of (t := MX10_rowsTogether) (ls := [.ref 79, .int (nI g), .null, .null]) (by decide +kernel) (Nat.le_of_ble_eq_true rfl) rfl ?_
  refine z_iconst (pc := 0) (v := nI 0) dX10_rowsTogether_0 (by decide) ?_
  refine z_istore_n (pc := 1) dX10_rowsTogether_1 rfl (by decide) rfl ?_
  try dsimp only [zst1, zst2, zk]
  refine z_iconst (pc := 2) (v := nI 0) dX10_rowsTogether_2 (by decide) ?_
  refine z_istore_n (pc := 3) dX10_rowsTogether_3 rfl (by decide) rfl ?_
  try dsimp only [zst1, zst2, zk]
  exact l_X10_rowsTogether hM hW hB hs (n 0) 0 0 (Nat.zero_add _) ⟨by rw [Nat.zero_add]; rfl, rfl, rfl⟩
theorem zrbm_y {g k x : Nat} (h : g / 2 ^ k % 2 = 1) (h2 : 0 < x) : (zbit g k && decide (0 < x)) = true := by simp [zbit, h, h2]
theorem zrbm_1 {g k x : Nat} (h : ¬ g / 2 ^ k % 2 = 1) (h2 : (zbit g k && decide (0 < x)) = true) : False := by
  simp [zbit] at h2
  exact h h2.1
theorem zrbm_2 {g k x : Nat} (h : x = 0) (h2 : (zbit g k && decide (0 < x)) = true) : False := by
  subst h
  simp at h2
set_option maxHeartbeats 2000000 in
set_option maxRecDepth 20000 in
theorem l_X10_reached1 {lay : List zL} {Q : Value → zI → zJ → Prop} {n : Nat → Nat} {d s : Nat} {I : zI} {J : zJ} (hM : kM lay) (hW : vW I n) (hB : bS n) {g j : Nat} (hs : g < 8) (hj : j < 3) : ∀ (m k v : Nat), k + m = n 0 → v ≤ 1 → (∀ v', v' ≤ 1 → (v' = 1 ↔ (v = 1 ∨ zany (fun i => zbit g i && decide (0 < n (7 + (3 * i + j)))) m k = true)) → Z lay MX10_reached d 76 [.ref 79, .int (nI g), .int (nI s), .int (nI j), .int (nI v'), .int (nI (n 0))] [] I J Q) → Z lay MX10_reached d 20 [.ref 79, .int (nI g), .int (nI s), .int (nI j), .int (nI v), .int (nI k)] [] I J Q := by
  obtain ⟨mo, m80, m81, m82, m83, m84, m85, m86, m87, m88, m89, m90, m91, m92, m93, m94, m95, m96⟩ := id hM
  have hwv := hW
  obtain ⟨b1, b2, b3, b4, b5, b6, b7, b8⟩ := id hB
  intro m
  induction m with
  | zero =>
    intro k v hk hv hq
    obtain rfl : k = n 0 := (by omega)
    refine z_iload (pc := 20) dX10_reached_20 rfl ?_
    refine z_aload_n (pc := 22) dX10_reached_22 rfl rfl ?_
    refine z_getR (pc := 23) dX10_reached_23 f_RX10_11 (by assumption) rfl ?_
    refine z_iconst (pc := 26) (v := nI 0) dX10_reached_26 (by decide) ?_
    refine z_ialoadv (pc := 27) dX10_reached_27 (by assumption) (by with_reducible rfl) (by omega) (by decide) (by first | assumption | exact hW _ (by omega) | rfl) ?_
    first | refine z_icmp_geN (pc := 28) (tgt := 76) (by with_reducible rfl) (by with_reducible rfl) dX10_reached_28 (by decide) (by omega) (by omega) (fun hb28 => ?_) (fun hb28 => absurd hb28 (by omega)) | refine z_icmp_ge (pc := 28) (tgt := 76) dX10_reached_28 (by decide) (fun hb28 => ?_) (fun hb28 => absurd hb28 (by omega))
    · skip
      exact hq v hv ⟨Or.inl, fun h => h.elim id (fun h => (by cases h))⟩
  | succ m ih =>
    intro k v hk hv hq
    have hp : g / 2 ^ k % 2 < 2 := Nat.mod_lt _ (by decide)
    have hc : n (7 + (3 * k + j)) ≤ 20 := b6 _ (by omega)
    have eA : n (7 + (3 * k + j)) = n (7 + 3 * k + j) := congrArg n (Nat.add_assoc 7 (3 * k) j).symm
    rw [eA] at hc
    have hst : ∀ v', v' ≤ 1 → (v' = 1 ↔ (v = 1 ∨ (zbit g k && decide (0 < n (7 + (3 * k + j)))) = true)) → Z lay MX10_reached d 20 [.ref 79, .int (nI g), .int (nI s), .int (nI j), .int (nI v'), .int (nI (k + 1))] [] I J Q := (fun v' h1 h2 => ih (k + 1) v' (by omega) h1 (fun v2 h3 h4 => hq v2 h3 (by
      rw [h4, h2]
      simp only [zany, Bool.or_eq_true, or_assoc])))
    refine z_iload (pc := 20) dX10_reached_20 rfl ?_
    refine z_aload_n (pc := 22) dX10_reached_22 rfl rfl ?_
    refine z_getR (pc := 23) dX10_reached_23 f_RX10_11 (by assumption) rfl ?_
    refine z_iconst (pc := 26) (v := nI 0) dX10_reached_26 (by decide) ?_
    refine z_ialoadv (pc := 27) dX10_reached_27 (by assumption) (by with_reducible rfl) (by omega) (by decide) (by first | assumption | exact hW _ (by omega) | rfl) ?_
    first | refine z_icmp_geN (pc := 28) (tgt := 76) (by with_reducible rfl) (by with_reducible rfl) dX10_reached_28 (by decide) (by omega) (by omega) (fun hb28 => absurd hb28 (by omega)) (fun hb28 => ?_) | refine z_icmp_ge (pc := 28) (tgt := 76) dX10_reached_28 (by decide) (fun hb28 => absurd hb28 (by omega)) (fun hb28 => ?_)
    · skip
      refine z_iload (pc := 31) dX10_reached_31 rfl ?_
      first | refine z_if_neN (pc := 33) (tgt := 63) (by with_reducible rfl) dX10_reached_33 (by decide) (by omega) (fun hb33 => ?_) (fun hb33 => ?_) | refine z_if_ne (pc := 33) (tgt := 63) dX10_reached_33 (by decide) (fun hb33 => ?_) (fun hb33 => ?_)
      · skip
        refine z_iconst (pc := 63) (v := nI 1) dX10_reached_63 (by decide) ?_
        refine z_goto (pc := 64) (tgt := 68) dX10_reached_64 (by decide) ?_
        refine z_istore (pc := 68) dX10_reached_68 (by decide) rfl ?_
        try dsimp only [zst1, zst2, zk]
        first | refine z_iincN (pc := 70) (c := 1) dX10_reached_70 rfl (by with_reducible rfl) (by decide) (by decide) rfl ?_ | refine z_iinc (pc := 70) dX10_reached_70 rfl rfl (by decide) rfl ?_
        try dsimp only [zst1, zst2, zk]
        refine z_goto (pc := 73) (tgt := 20) dX10_reached_73 (by decide) ?_
        first
        | exact hst 1 (by omega) ⟨fun _ => Or.inl (by omega), fun _ => rfl⟩
        | exact hst 1 (by omega) ⟨fun _ => Or.inr (zrbm_y hb43 (Nat.lt_of_lt_of_eq hb60 eA.symm)), fun _ => rfl⟩
        | exact hst 0 (by omega) ⟨fun h => absurd h (by decide), fun h => h.elim (fun h => absurd h (by omega)) (fun h => (zrbm_1 hb43 h).elim)⟩
        | exact hst 0 (by omega) ⟨fun h => absurd h (by decide), fun h => h.elim (fun h => absurd h (by omega)) (fun h => (zrbm_2 (eA.trans hb60) h).elim)⟩
        | fail
      · skip
        refine z_iload_n (pc := 36) dX10_reached_36 rfl rfl ?_
        refine z_iload (pc := 37) dX10_reached_37 rfl ?_
        refine z_ishr (pc := 39) dX10_reached_39 ?_
        refine z_iconst (pc := 40) (v := nI 1) dX10_reached_40 (by decide) ?_
        refine z_iand (pc := 41) dX10_reached_41 ?_
        rw [z_bit _ hs _ (by omega)]
        refine z_iconst (pc := 42) (v := nI 1) dX10_reached_42 (by decide) ?_
        first | refine z_icmp_neN (pc := 43) (tgt := 67) (by with_reducible rfl) (by with_reducible rfl) dX10_reached_43 (by decide) (by omega) (by omega) (fun hb43 => ?_) (fun hb43 => ?_) | refine z_icmp_ne (pc := 43) (tgt := 67) dX10_reached_43 (by decide) (fun hb43 => ?_) (fun hb43 => ?_)
        · skip
          refine z_iconst (pc := 67) (v := nI 0) dX10_reached_67 (by decide) ?_
          refine z_istore (pc := 68) dX10_reached_68 (by decide) rfl ?_
          try dsimp only [zst1, zst2, zk]
          first | refine z_iincN (pc := 70) (c := 1) dX10_reached_70 rfl (by with_reducible rfl) (by decide) (by decide) rfl ?_ | refine z_iinc (pc := 70) dX10_reached_70 rfl rfl (by decide) rfl ?_
          try dsimp only [zst1, zst2, zk]
          refine z_goto (pc := 73) (tgt := 20) dX10_reached_73 (by decide) ?_
          first
          | exact hst 1 (by omega) ⟨fun _ => Or.inl (by omega), fun _ => rfl⟩
          | exact hst 1 (by omega) ⟨fun _ => Or.inr (zrbm_y hb43 (Nat.lt_of_lt_of_eq hb60 eA.symm)), fun _ => rfl⟩
          | exact hst 0 (by omega) ⟨fun h => absurd h (by decide), fun h => h.elim (fun h => absurd h (by omega)) (fun h => (zrbm_1 hb43 h).elim)⟩
          | exact hst 0 (by omega) ⟨fun h => absurd h (by decide), fun h => h.elim (fun h => absurd h (by omega)) (fun h => (zrbm_2 (eA.trans hb60) h).elim)⟩
          | fail
        · skip
          refine z_aload_n (pc := 46) dX10_reached_46 rfl rfl ?_
          refine z_getR (pc := 47) dX10_reached_47 f_RX10_11 (by assumption) rfl ?_
          refine z_bipush (pc := 50) (v := nI 7) dX10_reached_50 (by decide) ?_
          refine z_iconst (pc := 52) (v := nI 3) dX10_reached_52 (by decide) ?_
          refine z_iload (pc := 53) dX10_reached_53 rfl ?_
          first | refine z_imulN (pc := 55) (by with_reducible rfl) (by with_reducible rfl) dX10_reached_55 ?_ | refine z_imul (pc := 55) dX10_reached_55 ?_
          first | refine z_iaddN (pc := 56) (by with_reducible rfl) (by with_reducible rfl) dX10_reached_56 ?_ | refine z_iadd (pc := 56) dX10_reached_56 ?_
          refine z_iload_n (pc := 57) dX10_reached_57 rfl rfl ?_
          first | refine z_iaddN (pc := 58) (by with_reducible rfl) (by with_reducible rfl) dX10_reached_58 ?_ | refine z_iadd (pc := 58) dX10_reached_58 ?_
          refine z_ialoadv (pc := 59) dX10_reached_59 (by assumption) (by with_reducible rfl) (by omega) (by decide) (by first | assumption | exact hW _ (by omega) | rfl) ?_
          first | refine z_if_leN (pc := 60) (tgt := 67) (by with_reducible rfl) dX10_reached_60 (by decide) (by omega) (fun hb60 => ?_) (fun hb60 => ?_) | refine z_if_le (pc := 60) (tgt := 67) dX10_reached_60 (by decide) (fun hb60 => ?_) (fun hb60 => ?_)
          · skip
            refine z_iconst (pc := 67) (v := nI 0) dX10_reached_67 (by decide) ?_
            refine z_istore (pc := 68) dX10_reached_68 (by decide) rfl ?_
            try dsimp only [zst1, zst2, zk]
            first | refine z_iincN (pc := 70) (c := 1) dX10_reached_70 rfl (by with_reducible rfl) (by decide) (by decide) rfl ?_ | refine z_iinc (pc := 70) dX10_reached_70 rfl rfl (by decide) rfl ?_
            try dsimp only [zst1, zst2, zk]
            refine z_goto (pc := 73) (tgt := 20) dX10_reached_73 (by decide) ?_
            first
            | exact hst 1 (by omega) ⟨fun _ => Or.inl (by omega), fun _ => rfl⟩
            | exact hst 1 (by omega) ⟨fun _ => Or.inr (zrbm_y hb43 (Nat.lt_of_lt_of_eq hb60 eA.symm)), fun _ => rfl⟩
            | exact hst 0 (by omega) ⟨fun h => absurd h (by decide), fun h => h.elim (fun h => absurd h (by omega)) (fun h => (zrbm_1 hb43 h).elim)⟩
            | exact hst 0 (by omega) ⟨fun h => absurd h (by decide), fun h => h.elim (fun h => absurd h (by omega)) (fun h => (zrbm_2 (eA.trans hb60) h).elim)⟩
            | fail
          · skip
            refine z_iconst (pc := 63) (v := nI 1) dX10_reached_63 (by decide) ?_
            refine z_goto (pc := 64) (tgt := 68) dX10_reached_64 (by decide) ?_
            refine z_istore (pc := 68) dX10_reached_68 (by decide) rfl ?_
            try dsimp only [zst1, zst2, zk]
            first | refine z_iincN (pc := 70) (c := 1) dX10_reached_70 rfl (by with_reducible rfl) (by decide) (by decide) rfl ?_ | refine z_iinc (pc := 70) dX10_reached_70 rfl rfl (by decide) rfl ?_
            try dsimp only [zst1, zst2, zk]
            refine z_goto (pc := 73) (tgt := 20) dX10_reached_73 (by decide) ?_
            first
            | exact hst 1 (by omega) ⟨fun _ => Or.inl (by omega), fun _ => rfl⟩
            | exact hst 1 (by omega) ⟨fun _ => Or.inr (zrbm_y hb43 (Nat.lt_of_lt_of_eq hb60 eA.symm)), fun _ => rfl⟩
            | exact hst 0 (by omega) ⟨fun h => absurd h (by decide), fun h => h.elim (fun h => absurd h (by omega)) (fun h => (zrbm_1 hb43 h).elim)⟩
            | exact hst 0 (by omega) ⟨fun h => absurd h (by decide), fun h => h.elim (fun h => absurd h (by omega)) (fun h => (zrbm_2 (eA.trans hb60) h).elim)⟩
            | fail
set_option maxHeartbeats 2000000 in
set_option maxRecDepth 20000 in
theorem l_X10_reached {lay : List zL} {Q : Value → zI → zJ → Prop} {n : Nat → Nat} {d : Nat} {I : zI} {J : zJ} (hM : kM lay) (hW : vW I n) (hB : bS n) {g : Nat} (hs : g < 8) : ∀ (m j s : Nat) (x4 x5 : Value), j + m = n 1 → Q (.int (nI (s + zmsum (zif (zre1 n g) (fun j => n (25 + (3 + j)))) m j))) I J → Z lay MX10_reached (d + 1) 4 [.ref 79, .int (nI g), .int (nI s), .int (nI j), x4, x5] [] I J Q := by
  obtain ⟨mo, m80, m81, m82, m83, m84, m85, m86, m87, m88, m89, m90, m91, m92, m93, m94, m95, m96⟩ := id hM
  have hwv := hW
  obtain ⟨b1, b2, b3, b4, b5, b6, b7, b8⟩ := id hB
  intro m
  induction m with
  | zero =>
    intro j s x4 x5 hk hq
    refine z_iload_n (pc := 4) dX10_reached_4 rfl rfl ?_
    refine z_aload_n (pc := 5) dX10_reached_5 rfl rfl ?_
    refine z_getR (pc := 6) dX10_reached_6 f_RX10_11 (by assumption) rfl ?_
    refine z_iconst (pc := 9) (v := nI 1) dX10_reached_9 (by decide) ?_
    refine z_ialoadv (pc := 10) dX10_reached_10 (by assumption) (by with_reducible rfl) (by omega) (by decide) (by first | assumption | exact hW _ (by omega) | rfl) ?_
    first | refine z_icmp_geN (pc := 11) (tgt := 100) (by with_reducible rfl) (by with_reducible rfl) dX10_reached_11 (by decide) (by omega) (by omega) (fun hb11 => ?_) (fun hb11 => absurd hb11 (by omega)) | refine z_icmp_ge (pc := 11) (tgt := 100) dX10_reached_11 (by decide) (fun hb11 => ?_) (fun hb11 => absurd hb11 (by omega))
    · skip
      refine z_iload_n (pc := 100) dX10_reached_100 rfl rfl ?_
      refine z_iret (pc := 101) dX10_reached_101 rfl ?_
      exact hq
  | succ m ih =>
    intro j s x4 x5 hk hq
    refine z_iload_n (pc := 4) dX10_reached_4 rfl rfl ?_
    refine z_aload_n (pc := 5) dX10_reached_5 rfl rfl ?_
    refine z_getR (pc := 6) dX10_reached_6 f_RX10_11 (by assumption) rfl ?_
    refine z_iconst (pc := 9) (v := nI 1) dX10_reached_9 (by decide) ?_
    refine z_ialoadv (pc := 10) dX10_reached_10 (by assumption) (by with_reducible rfl) (by omega) (by decide) (by first | assumption | exact hW _ (by omega) | rfl) ?_
    first | refine z_icmp_geN (pc := 11) (tgt := 100) (by with_reducible rfl) (by with_reducible rfl) dX10_reached_11 (by decide) (by omega) (by omega) (fun hb11 => absurd hb11 (by omega)) (fun hb11 => ?_) | refine z_icmp_ge (pc := 11) (tgt := 100) dX10_reached_11 (by decide) (fun hb11 => absurd hb11 (by omega)) (fun hb11 => ?_)
    · skip
      refine z_iconst (pc := 14) (v := nI 0) dX10_reached_14 (by decide) ?_
      refine z_istore (pc := 15) dX10_reached_15 (by decide) rfl ?_
      try dsimp only [zst1, zst2, zk]
      refine z_iconst (pc := 17) (v := nI 0) dX10_reached_17 (by decide) ?_
      refine z_istore (pc := 18) dX10_reached_18 (by decide) rfl ?_
      try dsimp only [zst1, zst2, zk]
      refine l_X10_reached1 hM hW hB hs (by omega) (n 0) 0 0 (by omega) (by omega) (fun v hv hi => ?_)
      have hi2 : v = 1 ↔ zre1 n g j = true := hi.trans ⟨fun h => h.elim (fun h => absurd h (by decide)) id, Or.inr⟩
      refine z_iload_n (pc := 76) dX10_reached_76 rfl rfl ?_
      refine z_iload (pc := 77) dX10_reached_77 rfl ?_
      first | refine z_if_eqN (pc := 79) (tgt := 91) (by with_reducible rfl) dX10_reached_79 (by decide) (by omega) (fun hb79 => ?_) (fun hb79 => ?_) | refine z_if_eq (pc := 79) (tgt := 91) dX10_reached_79 (by decide) (fun hb79 => ?_) (fun hb79 => ?_)
      · skip
        refine z_iconst (pc := 91) (v := nI 0) dX10_reached_91 (by decide) ?_
        try rw [show 3 * 1 + j = 3 + j by omega]
        first | refine z_iaddN (pc := 92) (by with_reducible rfl) (by with_reducible rfl) dX10_reached_92 ?_ | refine z_iadd (pc := 92) dX10_reached_92 ?_
        refine z_istore_n (pc := 93) dX10_reached_93 rfl (by decide) rfl ?_
        try dsimp only [zst1, zst2, zk]
        first | refine z_iincN (pc := 94) (c := 1) dX10_reached_94 rfl (by with_reducible rfl) (by decide) (by decide) rfl ?_ | refine z_iinc (pc := 94) dX10_reached_94 rfl rfl (by decide) rfl ?_
        try dsimp only [zst1, zst2, zk]
        refine z_goto (pc := 97) (tgt := 4) dX10_reached_97 (by decide) ?_
        first
        | exact ih (j + 1) _ _ _ (by omega) (by simp only [zmsum, zif] at hq; rw [if_pos (hi2.mp (by omega))] at hq; rw [Nat.add_assoc]; exact hq)
        | exact ih (j + 1) _ _ _ (by omega) (by simp only [zmsum, zif] at hq; rw [if_neg (fun e => absurd (hi2.mpr e) (by omega)), Nat.zero_add] at hq; exact hq)
        | fail
      · skip
        refine z_aload_n (pc := 82) dX10_reached_82 rfl rfl ?_
        refine z_iconst (pc := 83) (v := nI 1) dX10_reached_83 (by decide) ?_
        refine z_iload_n (pc := 84) dX10_reached_84 rfl rfl ?_
        refine z_callV (pc := 85) (c_X10_marginAt hM hW (by omega) (by omega)) dX10_reached_85 l_RX10_102 m_MX10_marginAt n_MX10_marginAt e_MX10_marginAt rfl (by omega) (by assumption) rfl rfl (Nat.le_of_ble_eq_true rfl) ?_
        rintro _ _ _ (⟨rfl, rfl, rfl⟩)
        try dsimp only [zov, Option.toList, List.cons_append, List.nil_append]
        refine z_goto (pc := 88) (tgt := 92) dX10_reached_88 (by decide) ?_
        try rw [show 3 * 1 + j = 3 + j by omega]
        first | refine z_iaddN (pc := 92) (by with_reducible rfl) (by with_reducible rfl) dX10_reached_92 ?_ | refine z_iadd (pc := 92) dX10_reached_92 ?_
        refine z_istore_n (pc := 93) dX10_reached_93 rfl (by decide) rfl ?_
        try dsimp only [zst1, zst2, zk]
        first | refine z_iincN (pc := 94) (c := 1) dX10_reached_94 rfl (by with_reducible rfl) (by decide) (by decide) rfl ?_ | refine z_iinc (pc := 94) dX10_reached_94 rfl rfl (by decide) rfl ?_
        try dsimp only [zst1, zst2, zk]
        refine z_goto (pc := 97) (tgt := 4) dX10_reached_97 (by decide) ?_
        first
        | exact ih (j + 1) _ _ _ (by omega) (by simp only [zmsum, zif] at hq; rw [if_pos (hi2.mp (by omega))] at hq; rw [Nat.add_assoc]; exact hq)
        | exact ih (j + 1) _ _ _ (by omega) (by simp only [zmsum, zif] at hq; rw [if_neg (fun e => absurd (hi2.mpr e) (by omega)), Nat.zero_add] at hq; exact hq)
        | fail
set_option maxHeartbeats 2000000 in
set_option maxRecDepth 20000 in
theorem c_X10_reached {lay : List zL} {I : zI} {J : zJ} {n : Nat → Nat} (hM : kM lay) (hW : vW I n) (hB : bS n) {g : Nat} (hs : g < 8) : zMet lay MX10_reached 1 [.ref 79, .int (nI g)] I J (fun r I' J' => r = .int (nI (zre n g)) ∧ I = I' ∧ J = J') := by
  refine zMet_of (t := MX10_reached) (ls := [.ref 79, .int (nI g), .null, .null, .null, .null]) (by decide +kernel) (Nat.le_of_ble_eq_true rfl) rfl ?_
  refine z_iconst (pc := 0) (v := nI 0) dX10_reached_0 (by decide) ?_
  refine z_istore_n (pc := 1) dX10_reached_1 rfl (by decide) rfl ?_
  try dsimp only [zst1, zst2, zk]
  refine z_iconst (pc := 2) (v := nI 0) dX10_reached_2 (by decide) ?_
  refine z_istore_n (pc := 3) dX10_reached_3 rfl (by decide) rfl ?_
  try dsimp only [zst1, zst2, zk]
  exact l_X10_reached (d := 0) hM hW hB hs (n 1) 0 0 _ _ (Nat.zero_add _) ⟨by rw [Nat.zero_add]; rfl, rfl, rfl⟩
set_option maxHeartbeats 2000000 in
set_option maxRecDepth 20000 in
theorem c_X10_sizeOf {lay : List zL} {I : zI} {J : zJ} {k : Nat} (hk : k < 8) : zMet lay MX10_sizeOf 0 [.int (nI k)] I J (fun r I' J' => r = .int (nI (zpop k)) ∧ I = I' ∧ J = J') := by
  refine zMet_of (t := MX10_sizeOf) (ls := [.int (nI k)]) (by decide +kernel) (Nat.le_of_ble_eq_true rfl) rfl ?_
  refine z_iload_n (pc := 0) dX10_sizeOf_0 rfl rfl ?_
  refine z_iconst (pc := 1) (v := nI 1) dX10_sizeOf_1 (by decide) ?_
  refine z_iand (pc := 2) dX10_sizeOf_2 ?_
  refine z_iload_n (pc := 3) dX10_sizeOf_3 rfl rfl ?_
  refine z_iconst (pc := 4) (v := nI 1) dX10_sizeOf_4 (by decide) ?_
  refine z_ishr (pc := 5) dX10_sizeOf_5 ?_
  refine z_iconst (pc := 6) (v := nI 1) dX10_sizeOf_6 (by decide) ?_
  refine z_iand (pc := 7) dX10_sizeOf_7 ?_
  first | refine z_iaddN (pc := 8) (by with_reducible rfl) (by with_reducible rfl) dX10_sizeOf_8 ?_ | refine z_iadd (pc := 8) dX10_sizeOf_8 ?_
  refine z_iload_n (pc := 9) dX10_sizeOf_9 rfl rfl ?_
  refine z_iconst (pc := 10) (v := nI 2) dX10_sizeOf_10 (by decide) ?_
  refine z_ishr (pc := 11) dX10_sizeOf_11 ?_
  refine z_iconst (pc := 12) (v := nI 1) dX10_sizeOf_12 (by decide) ?_
  refine z_iand (pc := 13) dX10_sizeOf_13 ?_
  first | refine z_iaddN (pc := 14) (by with_reducible rfl) (by with_reducible rfl) dX10_sizeOf_14 ?_ | refine z_iadd (pc := 14) dX10_sizeOf_14 ?_
  refine z_iret (pc := 15) dX10_sizeOf_15 rfl ?_
  refine ⟨?_, rfl, rfl⟩
  rcases (show k = 0 ∨ k = 1 ∨ k = 2 ∨ k = 3 ∨ k = 4 ∨ k = 5 ∨ k = 6 ∨ k = 7 by omega) with rfl | rfl | rfl | rfl | rfl | rfl | rfl | rfl <;> decide +kernel
/-- the sets from above down -/
def zfd (P : Nat → Bool) : Nat → Nat → Nat → Nat
  | 0, _, b => b
  | m + 1, s, b => zfd P m (s - 1) (if P s = true ∧ (b = 0 ∨ zpop s ≤ zpop b) then s else b)
def zpk (p1 p2 p3 p4 p5 p6 p7 : Bool) : Nat → Bool := fun k => if k = 1 then p1 else if k = 2 then p2 else if k = 3 then p3 else if k = 4 then p4 else if k = 5 then p5 else if k = 6 then p6 else p7
theorem zfd_d1 : ∀ p1 p2 p3 p4 p5 p6 p7 : Bool, zfd (zpk p1 p2 p3 p4 p5 p6 p7) 1 1 0 = zfo (zpk p1 p2 p3 p4 p5 p6 p7) 1 1 0 := by decide +kernel
theorem zfd_d2 : ∀ p1 p2 p3 p4 p5 p6 p7 : Bool, zfd (zpk p1 p2 p3 p4 p5 p6 p7) 3 3 0 = zfo (zpk p1 p2 p3 p4 p5 p6 p7) 3 1 0 := by decide +kernel
theorem zfd_d3 : ∀ p1 p2 p3 p4 p5 p6 p7 : Bool, zfd (zpk p1 p2 p3 p4 p5 p6 p7) 7 7 0 = zfo (zpk p1 p2 p3 p4 p5 p6 p7) 7 1 0 := by decide +kernel
theorem zfo_cg {P P' : Nat → Bool} : ∀ (m s b : Nat), (∀ k, s ≤ k → k < s + m → P k = P' k) → zfo P m s b = zfo P' m s b
  | 0, _, _, _ => rfl
  | m + 1, s, b, h => by
    unfold zfo
    rw [h s (by omega) (by omega)]
    exact zfo_cg m (s + 1) _ (fun k h1 h2 => h k (by omega) (by omega))
theorem zfd_cg {P P' : Nat → Bool} : ∀ (m s b : Nat), m ≤ s → (∀ k, 0 < k → k ≤ s → P k = P' k) → zfd P m s b = zfd P' m s b
  | 0, _, _, _, _ => rfl
  | m + 1, s, b, hm, h => by
    unfold zfd
    rw [h s (by omega) (by omega)]
    exact zfd_cg m (s - 1) _ (by omega) (fun k h1 h2 => h k h1 (by omega))
theorem zpk_e {P : Nat → Bool} {k : Nat} (h0 : 0 < k) (h : k ≤ 7) : P k = zpk (P 1) (P 2) (P 3) (P 4) (P 5) (P 6) (P 7) k := by
  rcases (show k = 1 ∨ k = 2 ∨ k = 3 ∨ k = 4 ∨ k = 5 ∨ k = 6 ∨ k = 7 by omega) with rfl | rfl | rfl | rfl | rfl | rfl | rfl <;> rfl
theorem zfd_fo {P : Nat → Bool} {r : Nat} (h1 : 1 ≤ r) (h3 : r ≤ 3) : zfd P (2 ^ r - 1) (2 ^ r - 1) 0 = zfo P (2 ^ r - 1) 1 0 := by
  have hr := zpow_r h1 h3
  rw [zfd_cg (P' := zpk (P 1) (P 2) (P 3) (P 4) (P 5) (P 6) (P 7)) _ _ _ (Nat.le_refl _) (fun k h1 h2 => zpk_e h1 (by omega)), zfo_cg (P' := zpk (P 1) (P 2) (P 3) (P 4) (P 5) (P 6) (P 7)) _ _ _ (fun k h1 h2 => zpk_e h1 (by omega))]
  rcases (show r = 1 ∨ r = 2 ∨ r = 3 by omega) with rfl | rfl | rfl
  · exact zfd_d1 _ _ _ _ _ _ _
  · exact zfd_d2 _ _ _ _ _ _ _
  · exact zfd_d3 _ _ _ _ _ _ _
theorem nI_dec {g : Nat} (h : 1 ≤ g) : nI g + Int32.ofInt (-1) = nI (g - 1) := by
  rw [← pk_sub h, Int32.sub_eq_add_neg]
  rfl
set_option maxHeartbeats 2000000 in
set_option maxRecDepth 20000 in
theorem l_X10_forbids {lay : List zL} {Q : Value → zI → zJ → Prop} {n : Nat → Nat} {d : Nat} {I : zI} {J : zJ} (hM : kM lay) (hW : vW I n) (hB : bS n) : ∀ (m b : Nat), m < 8 → b < 8 → Q (.int (nI (zfd (zfb n) m m b))) I J → Z lay MX10_forbids (d + 2) 13 [.ref 79, .int (nI b), .int (nI m)] [] I J Q := by
  obtain ⟨mo, m80, m81, m82, m83, m84, m85, m86, m87, m88, m89, m90, m91, m92, m93, m94, m95, m96⟩ := id hM
  have hwv := hW
  obtain ⟨b1, b2, b3, b4, b5, b6, b7, b8⟩ := id hB
  intro m
  induction m with
  | zero =>
    intro b hm hb hq
    refine z_iload_n (pc := 13) dX10_forbids_13 rfl rfl ?_
    first | refine z_if_leN (pc := 14) (tgt := 53) (by with_reducible rfl) dX10_forbids_14 (by decide) (by omega) (fun hb14 => ?_) (fun hb14 => absurd hb14 (by omega)) | refine z_if_le (pc := 14) (tgt := 53) dX10_forbids_14 (by decide) (fun hb14 => ?_) (fun hb14 => absurd hb14 (by omega))
    · skip
      refine z_iload_n (pc := 53) dX10_forbids_53 rfl rfl ?_
      refine z_iret (pc := 54) dX10_forbids_54 rfl ?_
      exact hq
  | succ m ih =>
    intro b hm hb hq
    have l1 := zmo_le hB (m + 1)
    have l2 := zre_le hB (m + 1)
    have l3 := zpop_le (m + 1)
    have l4 := zpop_le b
    refine z_iload_n (pc := 13) dX10_forbids_13 rfl rfl ?_
    first | refine z_if_leN (pc := 14) (tgt := 53) (by with_reducible rfl) dX10_forbids_14 (by decide) (by omega) (fun hb14 => absurd hb14 (by omega)) (fun hb14 => ?_) | refine z_if_le (pc := 14) (tgt := 53) dX10_forbids_14 (by decide) (fun hb14 => absurd hb14 (by omega)) (fun hb14 => ?_)
    · skip
      refine z_aload_n (pc := 17) dX10_forbids_17 rfl rfl ?_
      refine z_iload_n (pc := 18) dX10_forbids_18 rfl rfl ?_
      refine z_callV (pc := 19) (c_X10_rowsTogether hM hW hB (by omega)) dX10_forbids_19 l_RX10_202 m_MX10_rowsTogether n_MX10_rowsTogether e_MX10_rowsTogether rfl (by omega) (by assumption) rfl rfl (Nat.le_of_ble_eq_true rfl) ?_
      rintro _ _ _ (⟨rfl, rfl, rfl⟩)
      try dsimp only [zov, Option.toList, List.cons_append, List.nil_append]
      refine z_aload_n (pc := 22) dX10_forbids_22 rfl rfl ?_
      refine z_iload_n (pc := 23) dX10_forbids_23 rfl rfl ?_
      refine z_callV (pc := 24) (c_X10_reached hM hW hB (by omega)) dX10_forbids_24 l_RX10_205 m_MX10_reached n_MX10_reached e_MX10_reached rfl (by omega) (by assumption) rfl rfl (Nat.le_of_ble_eq_true rfl) ?_
      rintro _ _ _ (⟨rfl, rfl, rfl⟩)
      try dsimp only [zov, Option.toList, List.cons_append, List.nil_append]
      first | refine z_icmp_leN (pc := 27) (tgt := 47) (by with_reducible rfl) (by with_reducible rfl) dX10_forbids_27 (by decide) (by omega) (by omega) (fun hb27 => ?_) (fun hb27 => ?_) | refine z_icmp_le (pc := 27) (tgt := 47) dX10_forbids_27 (by decide) (fun hb27 => ?_) (fun hb27 => ?_)
      · skip
        refine z_iinc (pc := 47) (v := nI m) dX10_forbids_47 rfl ((nI_dec (by omega)).trans (by rw [Nat.add_sub_cancel])) (by decide) rfl ?_
        try dsimp only [zst1, zst2, zk]
        refine z_goto (pc := 50) (tgt := 13) dX10_forbids_50 (by decide) ?_
        unfold zfd at hq
        rw [Nat.add_sub_cancel] at hq
        first
        | exact ih (m + 1) (by omega) (by omega) (by rw [if_pos ⟨decide_eq_true (by omega), (by omega)⟩] at hq; exact hq)
        | exact ih b (by omega) (by omega) (by rw [if_neg (fun h => by have h9 := of_decide_eq_true h.1; have h8 := h.2; omega)] at hq; exact hq)
        | fail
      · skip
        refine z_iload_n (pc := 30) dX10_forbids_30 rfl rfl ?_
        first | refine z_if_eqN (pc := 31) (tgt := 45) (by with_reducible rfl) dX10_forbids_31 (by decide) (by omega) (fun hb31 => ?_) (fun hb31 => ?_) | refine z_if_eq (pc := 31) (tgt := 45) dX10_forbids_31 (by decide) (fun hb31 => ?_) (fun hb31 => ?_)
        · skip
          refine z_iload_n (pc := 45) dX10_forbids_45 rfl rfl ?_
          refine z_istore_n (pc := 46) dX10_forbids_46 rfl (by decide) rfl ?_
          try dsimp only [zst1, zst2, zk]
          refine z_iinc (pc := 47) (v := nI m) dX10_forbids_47 rfl ((nI_dec (by omega)).trans (by rw [Nat.add_sub_cancel])) (by decide) rfl ?_
          try dsimp only [zst1, zst2, zk]
          refine z_goto (pc := 50) (tgt := 13) dX10_forbids_50 (by decide) ?_
          unfold zfd at hq
          rw [Nat.add_sub_cancel] at hq
          first
          | exact ih (m + 1) (by omega) (by omega) (by rw [if_pos ⟨decide_eq_true (by omega), (by omega)⟩] at hq; exact hq)
          | exact ih b (by omega) (by omega) (by rw [if_neg (fun h => by have h9 := of_decide_eq_true h.1; have h8 := h.2; omega)] at hq; exact hq)
          | fail
        · skip
          refine z_iload_n (pc := 34) dX10_forbids_34 rfl rfl ?_
          refine z_callS (pc := 35) (c_X10_sizeOf (by omega)) dX10_forbids_35 l_RX10_208 m_MX10_sizeOf s_MX10_sizeOf rfl (by omega) rfl (Nat.le_of_ble_eq_true rfl) ?_
          rintro _ _ _ (⟨rfl, rfl, rfl⟩)
          try dsimp only [zov, Option.toList, List.cons_append, List.nil_append]
          refine z_iload_n (pc := 38) dX10_forbids_38 rfl rfl ?_
          refine z_callS (pc := 39) (c_X10_sizeOf (by omega)) dX10_forbids_39 l_RX10_208 m_MX10_sizeOf s_MX10_sizeOf rfl (by omega) rfl (Nat.le_of_ble_eq_true rfl) ?_
          rintro _ _ _ (⟨rfl, rfl, rfl⟩)
          try dsimp only [zov, Option.toList, List.cons_append, List.nil_append]
          first | refine z_icmp_gtN (pc := 42) (tgt := 47) (by with_reducible rfl) (by with_reducible rfl) dX10_forbids_42 (by decide) (by omega) (by omega) (fun hb42 => ?_) (fun hb42 => ?_) | refine z_icmp_gt (pc := 42) (tgt := 47) dX10_forbids_42 (by decide) (fun hb42 => ?_) (fun hb42 => ?_)
          · skip
            refine z_iinc (pc := 47) (v := nI m) dX10_forbids_47 rfl ((nI_dec (by omega)).trans (by rw [Nat.add_sub_cancel])) (by decide) rfl ?_
            try dsimp only [zst1, zst2, zk]
            refine z_goto (pc := 50) (tgt := 13) dX10_forbids_50 (by decide) ?_
            unfold zfd at hq
            rw [Nat.add_sub_cancel] at hq
            first
            | exact ih (m + 1) (by omega) (by omega) (by rw [if_pos ⟨decide_eq_true (by omega), (by omega)⟩] at hq; exact hq)
            | exact ih b (by omega) (by omega) (by rw [if_neg (fun h => by have h9 := of_decide_eq_true h.1; have h8 := h.2; omega)] at hq; exact hq)
            | fail
          · skip
            refine z_iload_n (pc := 45) dX10_forbids_45 rfl rfl ?_
            refine z_istore_n (pc := 46) dX10_forbids_46 rfl (by decide) rfl ?_
            try dsimp only [zst1, zst2, zk]
            refine z_iinc (pc := 47) (v := nI m) dX10_forbids_47 rfl ((nI_dec (by omega)).trans (by rw [Nat.add_sub_cancel])) (by decide) rfl ?_
            try dsimp only [zst1, zst2, zk]
            refine z_goto (pc := 50) (tgt := 13) dX10_forbids_50 (by decide) ?_
            unfold zfd at hq
            rw [Nat.add_sub_cancel] at hq
            first
            | exact ih (m + 1) (by omega) (by omega) (by rw [if_pos ⟨decide_eq_true (by omega), (by omega)⟩] at hq; exact hq)
            | exact ih b (by omega) (by omega) (by rw [if_neg (fun h => by have h9 := of_decide_eq_true h.1; have h8 := h.2; omega)] at hq; exact hq)
            | fail
set_option maxHeartbeats 2000000 in
set_option maxRecDepth 20000 in
theorem c_X10_forbids {lay : List zL} {I : zI} {J : zJ} {n : Nat → Nat} (hM : kM lay) (hW : vW I n) (hB : bS n) : zMet lay MX10_forbids 2 [.ref 79] I J (fun r I' J' => r = .int (nI (zforb n)) ∧ I = I' ∧ J = J') := by
  refine zMet_of (t := MX10_forbids) (ls := [.ref 79, .null, .null]) (by decide +kernel) (Nat.le_of_ble_eq_true rfl) rfl ?_
  obtain ⟨mo, m80, m81, m82, m83, m84, m85, m86, m87, m88, m89, m90, m91, m92, m93, m94, m95, m96⟩ := id hM
  have hwv := hW
  obtain ⟨b1, b2, b3, b4, b5, b6, b7, b8⟩ := id hB
  have hr := zpow_r b1 b2
  refine z_iconst (pc := 0) (v := nI 0) dX10_forbids_0 (by decide) ?_
  refine z_istore_n (pc := 1) dX10_forbids_1 rfl (by decide) rfl ?_
  try dsimp only [zst1, zst2, zk]
  refine z_iconst (pc := 2) (v := nI 1) dX10_forbids_2 (by decide) ?_
  refine z_aload_n (pc := 3) dX10_forbids_3 rfl rfl ?_
  refine z_getR (pc := 4) dX10_forbids_4 f_RX10_11 (by assumption) rfl ?_
  refine z_iconst (pc := 7) (v := nI 0) dX10_forbids_7 (by decide) ?_
  refine z_ialoadv (pc := 8) dX10_forbids_8 (by assumption) (by with_reducible rfl) (by omega) (by decide) (by first | assumption | exact hW _ (by omega) | rfl) ?_
  refine z_ishl (pc := 9) dX10_forbids_9 ?_
  rw [z_shl _ (by omega)]
  refine z_iconst (pc := 10) (v := nI 1) dX10_forbids_10 (by decide) ?_
  first | refine z_isubN (pc := 11) (by with_reducible rfl) (by with_reducible rfl) dX10_forbids_11 (by omega) ?_ | refine z_isub (pc := 11) dX10_forbids_11 ?_
  refine z_istore_n (pc := 12) dX10_forbids_12 rfl (by decide) rfl ?_
  try dsimp only [zst1, zst2, zk]
  exact l_X10_forbids (d := 0) hM hW hB (2 ^ n 0 - 1) 0 (by omega) (by omega) ⟨by rw [zfd_fo b1 b2]; rfl, rfl, rfl⟩
theorem zbm32 {z : Int} (h1 : -2147483648 ≤ z) (h2 : z < 2147483648) : z.bmod (2 ^ 32) = z := by
  rw [Int.bmod_def]
  split <;> omega
theorem zsb_i {a b : Nat} (ha : a ≤ 1000) (hb : b ≤ 1000) : (nI a - nI b).toInt = (a : Int) - b := by
  rw [Int32.toInt_sub, nI_toInt (by omega), nI_toInt (by omega), zbm32 (by omega) (by omega)]
theorem zsb {a s m : Nat} (ha : a ≤ 1000) (hs : s + m ≤ 1000) : nI a - nI s - nI m = nI a - nI (s + m) := by
  apply Int32.toInt_inj.mp
  rw [Int32.toInt_sub, zsb_i ha (by omega), zsb_i ha hs, nI_toInt (by omega), zbm32 (by omega) (by omega)]
  omega
theorem zsb_0 {a b : Nat} (ha : a ≤ 1000) (hb : b ≤ 1000) : nI a - nI b = 0 ↔ a = b := by
  constructor
  · intro h
    have h1 := congrArg Int32.toInt h
    rw [zsb_i ha hb] at h1
    have h2 : (0 : Int32).toInt = 0 := by decide
    omega
  · rintro rfl
    apply Int32.toInt_inj.mp
    rw [zsb_i ha hb]
    have h2 : (0 : Int32).toInt = 0 := by decide
    omega
theorem zbit_full : ∀ r, r ≤ 3 → ∀ i, i < r → zbit (2 ^ r - 1) i = true := by
  have h : ∀ r, r < 4 → ∀ i, i < r → zbit (2 ^ r - 1) i = true := by decide +kernel
  exact fun r hr => h r (by omega)
theorem zmsum_cg {f g : Nat → Nat} : ∀ (m k : Nat), (∀ i, k ≤ i → i < k + m → f i = g i) → zmsum f m k = zmsum g m k
  | 0, _, _ => rfl
  | m + 1, k, h => by
    unfold zmsum
    rw [h k (by omega) (by omega), zmsum_cg m (k + 1) (fun i h1 h2 => h i (by omega) (by omega))]
theorem zmo_full {n : Nat → Nat} (hB : bS n) : zmo n (2 ^ n 0 - 1) = zall n 0 := by
  unfold zmo zall
  have e : zlines (n 0) (n 1) 0 = n 0 := rfl
  rw [e]
  refine zmsum_cg _ _ (fun i h1 h2 => ?_)
  unfold zif
  rw [if_pos (zbit_full _ hB.2.1 _ (by omega))]
  exact congrArg (fun z => n (25 + z)) (by omega)
set_option maxHeartbeats 2000000 in
set_option maxRecDepth 20000 in
theorem l_X10_surplus {lay : List zL} {Q : Value → zI → zJ → Prop} {n : Nat → Nat} {d a : Nat} {I : zI} {J : zJ} (hM : kM lay) (hW : vW I n) (hB : bS n) (ha : a ≤ 1000) : ∀ (m k x : Nat), k + m = n 1 → x + 60 * m ≤ 180 → Q (.int (nI a - nI (x + zmsum (fun k => n (25 + (3 * 1 + k))) m k))) I J → Z lay MX10_surplus (d + 1) 17 [.ref 79, .int (nI a - nI x), .int (nI k)] [] I J Q := by
  obtain ⟨mo, m80, m81, m82, m83, m84, m85, m86, m87, m88, m89, m90, m91, m92, m93, m94, m95, m96⟩ := id hM
  have hwv := hW
  obtain ⟨b1, b2, b3, b4, b5, b6, b7, b8⟩ := id hB
  intro m
  induction m with
  | zero =>
    intro k x hk hx hq
    refine z_iload_n (pc := 17) dX10_surplus_17 rfl rfl ?_
    refine z_aload_n (pc := 18) dX10_surplus_18 rfl rfl ?_
    refine z_getR (pc := 19) dX10_surplus_19 f_RX10_11 (by assumption) rfl ?_
    refine z_iconst (pc := 22) (v := nI 1) dX10_surplus_22 (by decide) ?_
    refine z_ialoadv (pc := 23) dX10_surplus_23 (by assumption) (by with_reducible rfl) (by omega) (by decide) (by first | assumption | exact hW _ (by omega) | rfl) ?_
    first | refine z_icmp_geN (pc := 24) (tgt := 42) (by with_reducible rfl) (by with_reducible rfl) dX10_surplus_24 (by decide) (by omega) (by omega) (fun hb24 => ?_) (fun hb24 => absurd hb24 (by omega)) | refine z_icmp_ge (pc := 24) (tgt := 42) dX10_surplus_24 (by decide) (fun hb24 => ?_) (fun hb24 => absurd hb24 (by omega))
    · skip
      refine z_iload_n (pc := 42) dX10_surplus_42 rfl rfl ?_
      refine z_iret (pc := 43) dX10_surplus_43 rfl ?_
      exact hq
  | succ m ih =>
    intro k x hk hx hq
    have h60 := b8 (3 * 1 + k) (by omega)
    refine z_iload_n (pc := 17) dX10_surplus_17 rfl rfl ?_
    refine z_aload_n (pc := 18) dX10_surplus_18 rfl rfl ?_
    refine z_getR (pc := 19) dX10_surplus_19 f_RX10_11 (by assumption) rfl ?_
    refine z_iconst (pc := 22) (v := nI 1) dX10_surplus_22 (by decide) ?_
    refine z_ialoadv (pc := 23) dX10_surplus_23 (by assumption) (by with_reducible rfl) (by omega) (by decide) (by first | assumption | exact hW _ (by omega) | rfl) ?_
    first | refine z_icmp_geN (pc := 24) (tgt := 42) (by with_reducible rfl) (by with_reducible rfl) dX10_surplus_24 (by decide) (by omega) (by omega) (fun hb24 => absurd hb24 (by omega)) (fun hb24 => ?_) | refine z_icmp_ge (pc := 24) (tgt := 42) dX10_surplus_24 (by decide) (fun hb24 => absurd hb24 (by omega)) (fun hb24 => ?_)
    · skip
      refine z_iload_n (pc := 27) dX10_surplus_27 rfl rfl ?_
      refine z_aload_n (pc := 28) dX10_surplus_28 rfl rfl ?_
      refine z_iconst (pc := 29) (v := nI 1) dX10_surplus_29 (by decide) ?_
      refine z_iload_n (pc := 30) dX10_surplus_30 rfl rfl ?_
      refine z_callV (pc := 31) (c_X10_marginAt hM hW (by omega) (by omega)) dX10_surplus_31 l_RX10_102 m_MX10_marginAt n_MX10_marginAt e_MX10_marginAt rfl (by omega) (by assumption) rfl rfl (Nat.le_of_ble_eq_true rfl) ?_
      rintro _ _ _ (⟨rfl, rfl, rfl⟩)
      try dsimp only [zov, Option.toList, List.cons_append, List.nil_append]
      first | refine z_isubN (pc := 34) (by with_reducible rfl) (by with_reducible rfl) dX10_surplus_34 (by omega) ?_ | refine z_isub (pc := 34) dX10_surplus_34 ?_
      refine z_topI (zsb ha (by omega)) ?_
      refine z_istore_n (pc := 35) dX10_surplus_35 rfl (by decide) rfl ?_
      try dsimp only [zst1, zst2, zk]
      first | refine z_iincN (pc := 36) (c := 1) dX10_surplus_36 rfl (by with_reducible rfl) (by decide) (by decide) rfl ?_ | refine z_iinc (pc := 36) dX10_surplus_36 rfl rfl (by decide) rfl ?_
      try dsimp only [zst1, zst2, zk]
      refine z_goto (pc := 39) (tgt := 17) dX10_surplus_39 (by decide) ?_
      exact ih (k + 1) _ (by omega) (by omega) (by unfold zmsum at hq; rw [← Nat.add_assoc] at hq; exact hq)
set_option maxHeartbeats 2000000 in
set_option maxRecDepth 20000 in
theorem c_X10_surplus {lay : List zL} {I : zI} {J : zJ} {n : Nat → Nat} (hM : kM lay) (hW : vW I n) (hB : bS n) : zMet lay MX10_surplus 2 [.ref 79] I J (fun r I' J' => r = .int (nI (zall n 0) - nI (zall n 1)) ∧ I = I' ∧ J = J') := by
  refine zMet_of (t := MX10_surplus) (ls := [.ref 79, .null, .null]) (by decide +kernel) (Nat.le_of_ble_eq_true rfl) rfl ?_
  obtain ⟨mo, m80, m81, m82, m83, m84, m85, m86, m87, m88, m89, m90, m91, m92, m93, m94, m95, m96⟩ := id hM
  have hwv := hW
  obtain ⟨b1, b2, b3, b4, b5, b6, b7, b8⟩ := id hB
  have hr := zpow_r b1 b2
  have hl := zall_le hB (w := 0) (by omega)
  refine z_aload_n (pc := 0) dX10_surplus_0 rfl rfl ?_
  refine z_iconst (pc := 1) (v := nI 1) dX10_surplus_1 (by decide) ?_
  refine z_aload_n (pc := 2) dX10_surplus_2 rfl rfl ?_
  refine z_getR (pc := 3) dX10_surplus_3 f_RX10_11 (by assumption) rfl ?_
  refine z_iconst (pc := 6) (v := nI 0) dX10_surplus_6 (by decide) ?_
  refine z_ialoadv (pc := 7) dX10_surplus_7 (by assumption) (by with_reducible rfl) (by omega) (by decide) (by first | assumption | exact hW _ (by omega) | rfl) ?_
  refine z_ishl (pc := 8) dX10_surplus_8 ?_
  refine z_iconst (pc := 9) (v := nI 1) dX10_surplus_9 (by decide) ?_
  rw [z_shl _ (by omega)]
  first | refine z_isubN (pc := 10) (by with_reducible rfl) (by with_reducible rfl) dX10_surplus_10 (by omega) ?_ | refine z_isub (pc := 10) dX10_surplus_10 ?_
  refine z_callV (pc := 11) (c_X10_rowsTogether hM hW hB (by omega)) dX10_surplus_11 l_RX10_202 m_MX10_rowsTogether n_MX10_rowsTogether e_MX10_rowsTogether rfl (by omega) (by assumption) rfl rfl (Nat.le_of_ble_eq_true rfl) ?_
  rintro _ _ _ (⟨rfl, rfl, rfl⟩)
  rw [zmo_full hB]
  try dsimp only [zov, Option.toList, List.cons_append, List.nil_append]
  refine z_topI (v := nI (zall n 0) - nI 0) (Int32.sub_zero (nI (zall n 0))).symm ?_
  refine z_istore_n (pc := 14) dX10_surplus_14 rfl (by decide) rfl ?_
  try dsimp only [zst1, zst2, zk]
  refine z_iconst (pc := 15) (v := nI 0) dX10_surplus_15 (by decide) ?_
  refine z_istore_n (pc := 16) dX10_surplus_16 rfl (by decide) rfl ?_
  try dsimp only [zst1, zst2, zk]
  exact l_X10_surplus (d := 1) hM hW hB (by omega) (n 1) 0 0 (Nat.zero_add _) (by omega) ⟨by rw [Nat.zero_add]; rfl, rfl, rfl⟩
set_option maxHeartbeats 2000000 in
set_option maxRecDepth 20000 in
theorem c_X10_possible {lay : List zL} {I : zI} {J : zJ} {n : Nat → Nat} (hM : kM lay) (hW : vW I n) (hB : bS n) : zMet lay MX10_possible 3 [.ref 79] I J (fun r I' J' => ((r = .int (nI 1) ∧ (zall n 0 = zall n 1 ∧ zforb n = 0)) ∨ (r = .int (nI 0) ∧ ¬ (zall n 0 = zall n 1 ∧ zforb n = 0))) ∧ I = I' ∧ J = J') := by
  refine zMet_of (t := MX10_possible) (ls := [.ref 79]) (by decide +kernel) (Nat.le_of_ble_eq_true rfl) rfl ?_
  obtain ⟨mo, m80, m81, m82, m83, m84, m85, m86, m87, m88, m89, m90, m91, m92, m93, m94, m95, m96⟩ := id hM
  have hwv := hW
  obtain ⟨b1, b2, b3, b4, b5, b6, b7, b8⟩ := id hB
  have hl0 := zall_le hB (w := 0) (by omega)
  have hl1 := zall_le hB (w := 1) (by omega)
  have hlf := zforb_lt hB
  have hz0 := zsb_0 (a := zall n 0) (b := zall n 1) (by omega) (by omega)
  refine z_aload_n (pc := 0) dX10_possible_0 rfl rfl ?_
  refine z_callV (pc := 1) (c_X10_surplus hM hW hB) dX10_possible_1 l_RX10_211 m_MX10_surplus n_MX10_surplus e_MX10_surplus rfl (by omega) (by assumption) rfl rfl (Nat.le_of_ble_eq_true rfl) ?_
  rintro _ _ _ (⟨rfl, rfl, rfl⟩)
  try dsimp only [zov, Option.toList, List.cons_append, List.nil_append]
  refine z_if_ne (pc := 4) (tgt := 18) dX10_possible_4 (by decide) (fun hb4 => ?_) (fun hb4 => ?_)
  · skip
    refine z_iconst (pc := 18) (v := nI 0) dX10_possible_18 (by decide) ?_
    refine z_iret (pc := 19) dX10_possible_19 rfl ?_
    first
      | exact ⟨Or.inl ⟨rfl, hz0.mp hb4, by omega⟩, rfl, rfl⟩
      | exact ⟨Or.inr ⟨rfl, fun q => absurd q.2 (by omega)⟩, rfl, rfl⟩
      | exact ⟨Or.inr ⟨rfl, fun q => hb4 (hz0.mpr q.1)⟩, rfl, rfl⟩
      | fail
  · skip
    refine z_aload_n (pc := 7) dX10_possible_7 rfl rfl ?_
    refine z_callV (pc := 8) (c_X10_forbids hM hW hB) dX10_possible_8 l_RX10_214 m_MX10_forbids n_MX10_forbids e_MX10_forbids rfl (by omega) (by assumption) rfl rfl (Nat.le_of_ble_eq_true rfl) ?_
    rintro _ _ _ (⟨rfl, rfl, rfl⟩)
    try dsimp only [zov, Option.toList, List.cons_append, List.nil_append]
    first | refine z_if_neN (pc := 11) (tgt := 18) (by with_reducible rfl) dX10_possible_11 (by decide) (by omega) (fun hb11 => ?_) (fun hb11 => ?_) | refine z_if_ne (pc := 11) (tgt := 18) dX10_possible_11 (by decide) (fun hb11 => ?_) (fun hb11 => ?_)
    · skip
      refine z_iconst (pc := 18) (v := nI 0) dX10_possible_18 (by decide) ?_
      refine z_iret (pc := 19) dX10_possible_19 rfl ?_
      first
        | exact ⟨Or.inl ⟨rfl, hz0.mp hb4, by omega⟩, rfl, rfl⟩
        | exact ⟨Or.inr ⟨rfl, fun q => absurd q.2 (by omega)⟩, rfl, rfl⟩
        | exact ⟨Or.inr ⟨rfl, fun q => hb4 (hz0.mpr q.1)⟩, rfl, rfl⟩
        | fail
    · skip
      refine z_iconst (pc := 14) (v := nI 1) dX10_possible_14 (by decide) ?_
      refine z_goto (pc := 15) (tgt := 19) dX10_possible_15 (by decide) ?_
      refine z_iret (pc := 19) dX10_possible_19 rfl ?_
      first
        | exact ⟨Or.inl ⟨rfl, hz0.mp hb4, by omega⟩, rfl, rfl⟩
        | exact ⟨Or.inr ⟨rfl, fun q => absurd q.2 (by omega)⟩, rfl, rfl⟩
        | exact ⟨Or.inr ⟨rfl, fun q => hb4 (hz0.mpr q.1)⟩, rfl, rfl⟩
        | fail
theorem zlsum_y {f : Nat → Nat} {r c k : Nat} (hk : k < 9) (h : k / 3 < r ∧ k % 3 < c) : zlsum f (zl r c k) = f k + zlsum f (zl r c (k + 1)) := by rw [zl_y hk h]; rfl
theorem zlsum_n {f : Nat → Nat} {r c k : Nat} (hk : k < 9) (h : ¬ (k / 3 < r ∧ k % 3 < c)) : zlsum f (zl r c k) = zlsum f (zl r c (k + 1)) := by rw [zl_n hk h]
theorem zlsum_9 {f : Nat → Nat} {r c : Nat} : zlsum f (zl r c 9) = 0 := by rw [zl_9]; rfl
set_option maxHeartbeats 2000000 in
set_option maxRecDepth 20000 in
theorem l_X10_allCounts {lay : List zL} {Q : Value → zI → zJ → Prop} {n : Nat → Nat} {d : Nat} {I : zI} {J : zJ} (hM : kM lay) (hW : vW I n) (hB : bS n) : ∀ (m k x : Nat), k + m = 9 → Q (.int (nI (x + zlsum (fun k => n (7 + k)) (zl (n 0) (n 1) k)))) I J → Z lay MX10_allCounts (d + 3) 4 [.ref 79, .int (nI x), .int (nI k)] [] I J Q := by
  obtain ⟨mo, m80, m81, m82, m83, m84, m85, m86, m87, m88, m89, m90, m91, m92, m93, m94, m95, m96⟩ := id hM
  intro m
  induction m with
  | zero =>
    intro k x hk hq
    obtain rfl : k = 9 := (by omega)
    refine z_iload_n (pc := 4) dX10_allCounts_4 rfl rfl ?_
    refine z_bipush (pc := 5) (v := nI 9) dX10_allCounts_5 (by decide) ?_
    first | refine z_icmp_geN (pc := 7) (tgt := 40) (by with_reducible rfl) (by with_reducible rfl) dX10_allCounts_7 (by decide) (by omega) (by omega) (fun hb7 => ?_) (fun hb7 => absurd hb7 (by omega)) | refine z_icmp_ge (pc := 7) (tgt := 40) dX10_allCounts_7 (by decide) (fun hb7 => ?_) (fun hb7 => absurd hb7 (by omega))
    · skip
      refine z_iload_n (pc := 40) dX10_allCounts_40 rfl rfl ?_
      refine z_iret (pc := 41) dX10_allCounts_41 rfl ?_
      rw [zlsum_9] at hq; exact hq
  | succ m ih =>
    intro k x hk hq
    refine z_iload_n (pc := 4) dX10_allCounts_4 rfl rfl ?_
    refine z_bipush (pc := 5) (v := nI 9) dX10_allCounts_5 (by decide) ?_
    first | refine z_icmp_geN (pc := 7) (tgt := 40) (by with_reducible rfl) (by with_reducible rfl) dX10_allCounts_7 (by decide) (by omega) (by omega) (fun hb7 => absurd hb7 (by omega)) (fun hb7 => ?_) | refine z_icmp_ge (pc := 7) (tgt := 40) dX10_allCounts_7 (by decide) (fun hb7 => absurd hb7 (by omega)) (fun hb7 => ?_)
    · skip
      refine z_iload_n (pc := 10) dX10_allCounts_10 rfl rfl ?_
      refine z_aload_n (pc := 11) dX10_allCounts_11 rfl rfl ?_
      refine z_iload_n (pc := 12) dX10_allCounts_12 rfl rfl ?_
      refine z_callV (pc := 13) (c_X10_isHere hM hW hB (by omega)) dX10_allCounts_13 l_RX10_82 m_MX10_isHere n_MX10_isHere e_MX10_isHere rfl (by omega) (by assumption) rfl rfl (Nat.le_of_ble_eq_true rfl) ?_
      rintro _ _ _ ⟨⟨rfl, hc⟩ | ⟨rfl, hc⟩, rfl, rfl⟩
      · skip
        try dsimp only [zov, Option.toList, List.cons_append, List.nil_append]
        first | refine z_if_eqN (pc := 16) (tgt := 31) (by with_reducible rfl) dX10_allCounts_16 (by decide) (by omega) (fun hb16 => absurd hb16 (by decide)) (fun hb16 => ?_) | refine z_if_eq (pc := 16) (tgt := 31) dX10_allCounts_16 (by decide) (fun hb16 => absurd hb16 (by decide)) (fun hb16 => ?_)
        · skip
          refine z_aload_n (pc := 19) dX10_allCounts_19 rfl rfl ?_
          refine z_getR (pc := 20) dX10_allCounts_20 f_RX10_11 (by assumption) rfl ?_
          refine z_bipush (pc := 23) (v := nI 7) dX10_allCounts_23 (by decide) ?_
          refine z_iload_n (pc := 25) dX10_allCounts_25 rfl rfl ?_
          first | refine z_iaddN (pc := 26) (by with_reducible rfl) (by with_reducible rfl) dX10_allCounts_26 ?_ | refine z_iadd (pc := 26) dX10_allCounts_26 ?_
          refine z_ialoadv (pc := 27) dX10_allCounts_27 (by assumption) (by with_reducible rfl) (by omega) (by decide) (by first | assumption | exact hW _ (by omega) | rfl) ?_
          refine z_goto (pc := 28) (tgt := 32) dX10_allCounts_28 (by decide) ?_
          first | refine z_iaddN (pc := 32) (by with_reducible rfl) (by with_reducible rfl) dX10_allCounts_32 ?_ | refine z_iadd (pc := 32) dX10_allCounts_32 ?_
          refine z_istore_n (pc := 33) dX10_allCounts_33 rfl (by decide) rfl ?_
          try dsimp only [zst1, zst2, zk]
          first | refine z_iincN (pc := 34) (c := 1) dX10_allCounts_34 rfl (by with_reducible rfl) (by decide) (by decide) rfl ?_ | refine z_iinc (pc := 34) dX10_allCounts_34 rfl rfl (by decide) rfl ?_
          try dsimp only [zst1, zst2, zk]
          refine z_goto (pc := 37) (tgt := 4) dX10_allCounts_37 (by decide) ?_
          first
          | exact ih (k + 1) _ (by omega) (by rw [zlsum_y (by omega) hc, ← Nat.add_assoc] at hq; exact hq)
          | exact ih (k + 1) _ (by omega) (by rw [zlsum_n (by omega) hc] at hq; exact hq)
          | fail
      · skip
        try dsimp only [zov, Option.toList, List.cons_append, List.nil_append]
        first | refine z_if_eqN (pc := 16) (tgt := 31) (by with_reducible rfl) dX10_allCounts_16 (by decide) (by omega) (fun hb16 => ?_) (fun hb16 => absurd hb16 (by decide)) | refine z_if_eq (pc := 16) (tgt := 31) dX10_allCounts_16 (by decide) (fun hb16 => ?_) (fun hb16 => absurd hb16 (by decide))
        · skip
          refine z_iconst (pc := 31) (v := nI 0) dX10_allCounts_31 (by decide) ?_
          first | refine z_iaddN (pc := 32) (by with_reducible rfl) (by with_reducible rfl) dX10_allCounts_32 ?_ | refine z_iadd (pc := 32) dX10_allCounts_32 ?_
          refine z_istore_n (pc := 33) dX10_allCounts_33 rfl (by decide) rfl ?_
          try dsimp only [zst1, zst2, zk]
          first | refine z_iincN (pc := 34) (c := 1) dX10_allCounts_34 rfl (by with_reducible rfl) (by decide) (by decide) rfl ?_ | refine z_iinc (pc := 34) dX10_allCounts_34 rfl rfl (by decide) rfl ?_
          try dsimp only [zst1, zst2, zk]
          refine z_goto (pc := 37) (tgt := 4) dX10_allCounts_37 (by decide) ?_
          first
          | exact ih (k + 1) _ (by omega) (by rw [zlsum_y (by omega) hc, ← Nat.add_assoc] at hq; exact hq)
          | exact ih (k + 1) _ (by omega) (by rw [zlsum_n (by omega) hc] at hq; exact hq)
          | fail
set_option maxHeartbeats 2000000 in
set_option maxRecDepth 20000 in
theorem c_X10_allCounts {lay : List zL} {I : zI} {J : zJ} {n : Nat → Nat} (hM : kM lay) (hW : vW I n) (hB : bS n) : zMet lay MX10_allCounts 3 [.ref 79] I J (fun r I' J' => r = .int (nI (zlsum (fun k => n (7 + k)) (zl (n 0) (n 1) 0))) ∧ I = I' ∧ J = J') := by
  refine zMet_of (t := MX10_allCounts) (ls := [.ref 79, .null, .null]) (by decide +kernel) (Nat.le_of_ble_eq_true rfl) rfl ?_
  refine z_iconst (pc := 0) (v := nI 0) dX10_allCounts_0 (by decide) ?_
  refine z_istore_n (pc := 1) dX10_allCounts_1 rfl (by decide) rfl ?_
  try dsimp only [zst1, zst2, zk]
  refine z_iconst (pc := 2) (v := nI 0) dX10_allCounts_2 (by decide) ?_
  refine z_istore_n (pc := 3) dX10_allCounts_3 rfl (by decide) rfl ?_
  try dsimp only [zst1, zst2, zk]
  exact l_X10_allCounts (d := 0) hM hW hB 9 0 0 rfl ⟨by rw [Nat.zero_add], rfl, rfl⟩
set_option maxHeartbeats 2000000 in
set_option maxRecDepth 20000 in
theorem c_X10_told {lay : List zL} {I : zI} {J : zJ} {S : zS} (hM : kM lay) (hV : vM I J S) {w : Int32} : zMet lay MX10_told 7 [.ref 79, .int w] I J (fun r I' J' => zPM I J (ftold S w) r I' J') := by
  refine zMet_of (t := MX10_told) (ls := [.ref 79, .int w]) (by decide +kernel) (Nat.le_of_ble_eq_true rfl) rfl ?_
  obtain ⟨mo, m80, m81, m82, m83, m84, m85, m86, m87, m88, m89, m90, m91, m92, m93, m94, m95, m96⟩ := id hM
  have hW : vW I S.n := hV.1.1
  have hb := hV.1.2.1
  have hG := hV.1.2.2
  have hB := hb.1
  have hT := hb.2.1
  obtain ⟨b1, b2, b3, b4, b5, b6, b7, b8⟩ := id hB
  refine z_iload_n (pc := 0) dX10_told_0 rfl rfl ?_
  by_cases hsw0 : w = nI 0
  · subst hsw0
    refine z_tableIn (pc := 1) (off := 47) (tgt := 48) dX10_told_1 (by decide) (by decide) (by decide) (by decide) ?_
    refine z_aload_n (pc := 48) dX10_told_48 rfl rfl ?_
    refine z_getR (pc := 49) dX10_told_49 f_RX10_11 (by assumption) rfl ?_
    refine z_iconst (pc := 52) (v := nI 0) dX10_told_52 (by decide) ?_
    refine z_ialoadv (pc := 53) dX10_told_53 (by assumption) (by with_reducible rfl) (by omega) (by decide) (by first | assumption | exact hW _ (by omega) | rfl) ?_
    refine z_iret (pc := 54) dX10_told_54 rfl ?_
    first
      | exact zPM_same hV ftold_0
      | exact zPM_same hV ftold_1
      | exact zPM_same hV ftold_2
      | exact zPM_same hV ftold_3
      | exact hp
      | exact zPM_same hV (ftold_5y hp)
      | exact zPM_same hV (ftold_5n hp)
      | exact zPM_same hV ftold_6
      | exact zPM_same hV ftold_7
      | exact zPM_same hV (ftold_8 hsw0 hsw1 hsw2 hsw3 hsw4 hsw5 hsw6 hsw7)
      | fail
  by_cases hsw1 : w = nI 1
  · subst hsw1
    refine z_tableIn (pc := 1) (off := 54) (tgt := 55) dX10_told_1 (by decide) (by decide) (by decide) (by decide) ?_
    refine z_aload_n (pc := 55) dX10_told_55 rfl rfl ?_
    refine z_getR (pc := 56) dX10_told_56 f_RX10_11 (by assumption) rfl ?_
    refine z_iconst (pc := 59) (v := nI 1) dX10_told_59 (by decide) ?_
    refine z_ialoadv (pc := 60) dX10_told_60 (by assumption) (by with_reducible rfl) (by omega) (by decide) (by first | assumption | exact hW _ (by omega) | rfl) ?_
    refine z_iret (pc := 61) dX10_told_61 rfl ?_
    first
      | exact zPM_same hV ftold_0
      | exact zPM_same hV ftold_1
      | exact zPM_same hV ftold_2
      | exact zPM_same hV ftold_3
      | exact hp
      | exact zPM_same hV (ftold_5y hp)
      | exact zPM_same hV (ftold_5n hp)
      | exact zPM_same hV ftold_6
      | exact zPM_same hV ftold_7
      | exact zPM_same hV (ftold_8 hsw0 hsw1 hsw2 hsw3 hsw4 hsw5 hsw6 hsw7)
      | fail
  by_cases hsw2 : w = nI 2
  · subst hsw2
    refine z_tableIn (pc := 1) (off := 61) (tgt := 62) dX10_told_1 (by decide) (by decide) (by decide) (by decide) ?_
    refine z_aload_n (pc := 62) dX10_told_62 rfl rfl ?_
    refine z_getR (pc := 63) dX10_told_63 f_RX10_11 (by assumption) rfl ?_
    refine z_iconst (pc := 66) (v := nI 2) dX10_told_66 (by decide) ?_
    refine z_ialoadv (pc := 67) dX10_told_67 (by assumption) (by with_reducible rfl) (by omega) (by decide) (by first | assumption | exact hW _ (by omega) | rfl) ?_
    refine z_iret (pc := 68) dX10_told_68 rfl ?_
    first
      | exact zPM_same hV ftold_0
      | exact zPM_same hV ftold_1
      | exact zPM_same hV ftold_2
      | exact zPM_same hV ftold_3
      | exact hp
      | exact zPM_same hV (ftold_5y hp)
      | exact zPM_same hV (ftold_5n hp)
      | exact zPM_same hV ftold_6
      | exact zPM_same hV ftold_7
      | exact zPM_same hV (ftold_8 hsw0 hsw1 hsw2 hsw3 hsw4 hsw5 hsw6 hsw7)
      | fail
  by_cases hsw3 : w = nI 3
  · subst hsw3
    refine z_tableIn (pc := 1) (off := 68) (tgt := 69) dX10_told_1 (by decide) (by decide) (by decide) (by decide) ?_
    refine z_aload_n (pc := 69) dX10_told_69 rfl rfl ?_
    refine z_getR (pc := 70) dX10_told_70 f_RX10_11 (by assumption) rfl ?_
    refine z_iconst (pc := 73) (v := nI 3) dX10_told_73 (by decide) ?_
    refine z_ialoadv (pc := 74) dX10_told_74 (by assumption) (by with_reducible rfl) (by omega) (by decide) (by first | assumption | exact hW _ (by omega) | rfl) ?_
    refine z_iret (pc := 75) dX10_told_75 rfl ?_
    first
      | exact zPM_same hV ftold_0
      | exact zPM_same hV ftold_1
      | exact zPM_same hV ftold_2
      | exact zPM_same hV ftold_3
      | exact hp
      | exact zPM_same hV (ftold_5y hp)
      | exact zPM_same hV (ftold_5n hp)
      | exact zPM_same hV ftold_6
      | exact zPM_same hV ftold_7
      | exact zPM_same hV (ftold_8 hsw0 hsw1 hsw2 hsw3 hsw4 hsw5 hsw6 hsw7)
      | fail
  by_cases hsw4 : w = nI 4
  · subst hsw4
    refine z_tableIn (pc := 1) (off := 75) (tgt := 76) dX10_told_1 (by decide) (by decide) (by decide) (by decide) ?_
    refine z_aload_n (pc := 76) dX10_told_76 rfl rfl ?_
    refine z_callV (pc := 77) (c_X10_settled hM hV) dX10_told_77 l_RX10_220 m_MX10_settled n_MX10_settled e_MX10_settled rfl (by omega) (by assumption) rfl rfl (Nat.le_of_ble_eq_true rfl) ?_
    rintro _ _ _ (hp)
    obtain ⟨x9, e9⟩ := ftold_i (S := S) (w := nI 4)
    obtain rfl := hp.1.trans e9
    try dsimp only [zov, Option.toList, List.cons_append, List.nil_append]
    refine z_iret (pc := 80) dX10_told_80 rfl ?_
    first
      | exact zPM_same hV ftold_0
      | exact zPM_same hV ftold_1
      | exact zPM_same hV ftold_2
      | exact zPM_same hV ftold_3
      | exact hp
      | exact zPM_same hV (ftold_5y hp)
      | exact zPM_same hV (ftold_5n hp)
      | exact zPM_same hV ftold_6
      | exact zPM_same hV ftold_7
      | exact zPM_same hV (ftold_8 hsw0 hsw1 hsw2 hsw3 hsw4 hsw5 hsw6 hsw7)
      | fail
  by_cases hsw5 : w = nI 5
  · subst hsw5
    refine z_tableIn (pc := 1) (off := 80) (tgt := 81) dX10_told_1 (by decide) (by decide) (by decide) (by decide) ?_
    refine z_aload_n (pc := 81) dX10_told_81 rfl rfl ?_
    refine z_callV (pc := 82) (c_X10_possible hM hW hB) dX10_told_82 l_RX10_223 m_MX10_possible n_MX10_possible e_MX10_possible rfl (by omega) (by assumption) rfl rfl (Nat.le_of_ble_eq_true rfl) ?_
    rintro _ _ _ ⟨⟨rfl, hp⟩ | ⟨rfl, hp⟩, rfl, rfl⟩
    · skip
      try dsimp only [zov, Option.toList, List.cons_append, List.nil_append]
      refine z_iret (pc := 85) dX10_told_85 rfl ?_
      first
        | exact zPM_same hV ftold_0
        | exact zPM_same hV ftold_1
        | exact zPM_same hV ftold_2
        | exact zPM_same hV ftold_3
        | exact hp
        | exact zPM_same hV (ftold_5y hp)
        | exact zPM_same hV (ftold_5n hp)
        | exact zPM_same hV ftold_6
        | exact zPM_same hV ftold_7
        | exact zPM_same hV (ftold_8 hsw0 hsw1 hsw2 hsw3 hsw4 hsw5 hsw6 hsw7)
        | fail
    · skip
      try dsimp only [zov, Option.toList, List.cons_append, List.nil_append]
      refine z_iret (pc := 85) dX10_told_85 rfl ?_
      first
        | exact zPM_same hV ftold_0
        | exact zPM_same hV ftold_1
        | exact zPM_same hV ftold_2
        | exact zPM_same hV ftold_3
        | exact hp
        | exact zPM_same hV (ftold_5y hp)
        | exact zPM_same hV (ftold_5n hp)
        | exact zPM_same hV ftold_6
        | exact zPM_same hV ftold_7
        | exact zPM_same hV (ftold_8 hsw0 hsw1 hsw2 hsw3 hsw4 hsw5 hsw6 hsw7)
        | fail
  by_cases hsw6 : w = nI 6
  · subst hsw6
    refine z_tableIn (pc := 1) (off := 85) (tgt := 86) dX10_told_1 (by decide) (by decide) (by decide) (by decide) ?_
    refine z_aload_n (pc := 86) dX10_told_86 rfl rfl ?_
    refine z_callV (pc := 87) (c_X10_forbids hM hW hB) dX10_told_87 l_RX10_214 m_MX10_forbids n_MX10_forbids e_MX10_forbids rfl (by omega) (by assumption) rfl rfl (Nat.le_of_ble_eq_true rfl) ?_
    rintro _ _ _ (⟨rfl, rfl, rfl⟩)
    try dsimp only [zov, Option.toList, List.cons_append, List.nil_append]
    refine z_iret (pc := 90) dX10_told_90 rfl ?_
    first
      | exact zPM_same hV ftold_0
      | exact zPM_same hV ftold_1
      | exact zPM_same hV ftold_2
      | exact zPM_same hV ftold_3
      | exact hp
      | exact zPM_same hV (ftold_5y hp)
      | exact zPM_same hV (ftold_5n hp)
      | exact zPM_same hV ftold_6
      | exact zPM_same hV ftold_7
      | exact zPM_same hV (ftold_8 hsw0 hsw1 hsw2 hsw3 hsw4 hsw5 hsw6 hsw7)
      | fail
  by_cases hsw7 : w = nI 7
  · subst hsw7
    refine z_tableIn (pc := 1) (off := 90) (tgt := 91) dX10_told_1 (by decide) (by decide) (by decide) (by decide) ?_
    refine z_aload_n (pc := 91) dX10_told_91 rfl rfl ?_
    refine z_callV (pc := 92) (c_X10_allCounts hM hW hB) dX10_told_92 l_RX10_226 m_MX10_allCounts n_MX10_allCounts e_MX10_allCounts rfl (by omega) (by assumption) rfl rfl (Nat.le_of_ble_eq_true rfl) ?_
    rintro _ _ _ (⟨rfl, rfl, rfl⟩)
    try dsimp only [zov, Option.toList, List.cons_append, List.nil_append]
    refine z_iret (pc := 95) dX10_told_95 rfl ?_
    first
      | exact zPM_same hV ftold_0
      | exact zPM_same hV ftold_1
      | exact zPM_same hV ftold_2
      | exact zPM_same hV ftold_3
      | exact hp
      | exact zPM_same hV (ftold_5y hp)
      | exact zPM_same hV (ftold_5n hp)
      | exact zPM_same hV ftold_6
      | exact zPM_same hV ftold_7
      | exact zPM_same hV (ftold_8 hsw0 hsw1 hsw2 hsw3 hsw4 hsw5 hsw6 hsw7)
      | fail
  · skip
    refine z_tableOut (pc := 1) (tgt := 96) dX10_told_1 (by have e0 : w.toInt ≠ 0 := fun h => hsw0 (Int32.toInt_inj.mp (h.trans (by decide))); have e1 : w.toInt ≠ 1 := fun h => hsw1 (Int32.toInt_inj.mp (h.trans (by decide))); have e2 : w.toInt ≠ 2 := fun h => hsw2 (Int32.toInt_inj.mp (h.trans (by decide))); have e3 : w.toInt ≠ 3 := fun h => hsw3 (Int32.toInt_inj.mp (h.trans (by decide))); have e4 : w.toInt ≠ 4 := fun h => hsw4 (Int32.toInt_inj.mp (h.trans (by decide))); have e5 : w.toInt ≠ 5 := fun h => hsw5 (Int32.toInt_inj.mp (h.trans (by decide))); have e6 : w.toInt ≠ 6 := fun h => hsw6 (Int32.toInt_inj.mp (h.trans (by decide))); have e7 : w.toInt ≠ 7 := fun h => hsw7 (Int32.toInt_inj.mp (h.trans (by decide))); omega) (by decide) ?_
    refine z_iconst (pc := 96) (v := -1) dX10_told_96 (by decide) ?_
    refine z_iret (pc := 97) dX10_told_97 rfl ?_
    first
      | exact zPM_same hV ftold_0
      | exact zPM_same hV ftold_1
      | exact zPM_same hV ftold_2
      | exact zPM_same hV ftold_3
      | exact hp
      | exact zPM_same hV (ftold_5y hp)
      | exact zPM_same hV (ftold_5n hp)
      | exact zPM_same hV ftold_6
      | exact zPM_same hV ftold_7
      | exact zPM_same hV (ftold_8 hsw0 hsw1 hsw2 hsw3 hsw4 hsw5 hsw6 hsw7)
      | fail
