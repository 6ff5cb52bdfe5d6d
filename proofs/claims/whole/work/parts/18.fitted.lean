/-! ===== a fit ===== -/
theorem zup_v {α : Type} {I : Nat → Nat → α} {a k x y : Nat} {v w : α} (h : x ≠ a) (e : I x y = v) : zup I a k w x y = v := by rw [zup_o h]; exact e
def zset (m : Nat → Nat) (k : Nat) (q : Nat × Nat) : Nat → Nat := fun j => if j = 34 + k then q.1 else if j = 43 + k then q.2 else m j
/-- the cells of a line become themselves times x, by y -/
def zfl (P : Nat → Bool) (x y : Nat) : List Nat → (Nat → Nat) → Option (Nat → Nat)
  | [], m => some m
  | k :: l, m => if P k = true then (if zok (zred (m (34 + k) * x) (m (43 + k) * y)) = true then zfl P x y l (zset m k (zred (m (34 + k) * x) (m (43 + k) * y))) else none) else zfl P x y l m
theorem zset_bT {m : Nat → Nat} {k : Nat} {q : Nat × Nat} (h : bT m) (hk : k < 9) (hq : zbd q) : bT (zset m k q) := by
  intro j hj
  have h1 := h j hj
  unfold zset
  by_cases e : j = k
  · subst e
    rw [if_pos rfl, if_neg (by omega), if_pos rfl]
    exact ⟨hq.1, hq.2.1, hq.2.2⟩
  · rw [if_neg (by omega), if_neg (by omega), if_neg (by omega), if_neg (by omega)]
    exact h1
theorem zset_vT {I : zI} {J : zJ} {t k : Nat} {m : Nat → Nat} {q : Nat × Nat} {f : Nat} {u v : Int64} (h : vT I J t m) (hk : k < 9) (hf : f ≠ t + 1) (hf2 : f ≠ t + 2) : vT I (zup (zup (zup (zup J f 0 u) f 1 v) (t + 1) k (lN q.1)) (t + 2) k (lN q.2)) t (zset m k q) := by
  obtain ⟨h0, h1, h2⟩ := h
  refine ⟨fun j hj => ?_, fun j hj => ?_, ?_⟩
  · rw [zup_o (by omega), zup_a]
    show (if j = k then _ else (zup (zup J f 0 u) f 1 v) (t + 1) j) = _
    unfold zset
    by_cases e : j = k
    · rw [if_pos e, if_pos (by omega)]
    · rw [if_neg e, if_neg (by omega), if_neg (by omega), zup_o (by omega), zup_o (by omega)]
      exact h0 j hj
  · rw [zup_a]
    show (if j = k then _ else (zup (zup (zup J f 0 u) f 1 v) (t + 1) k (lN q.1)) (t + 2) j) = _
    unfold zset
    by_cases e : j = k
    · rw [if_pos e, if_neg (by omega), if_pos (by omega)]
    · rw [if_neg e, if_neg (by omega), if_neg (by omega), zup_o (by omega), zup_o (by omega), zup_o (by omega)]
      exact h1 j hj
  · unfold zset
    rw [if_neg (by omega), if_neg (by omega)]
    exact h2
theorem zfl_bT {P : Nat → Bool} {x y : Nat} (hy : 0 < y) : ∀ (l : List Nat) (m m' : Nat → Nat), (∀ k ∈ l, k < 9) → bT m → zfl P x y l m = some m' → bT m'
  | [], m, m', _, h, e => by
    cases e
    exact h
  | k :: l, m, m', hl, h, e => by
    have hk := hl k List.mem_cons_self
    simp only [zfl] at e
    split at e
    · split at e
      · rename_i h1 h2
        exact zfl_bT hy l _ m' (fun a ha => hl a (List.mem_cons_of_mem _ ha)) (zset_bT h hk (zok_bd (Nat.mul_pos (h k hk).2.1 hy) h2)) e
      · cases e
    · exact zfl_bT hy l m m' (fun a ha => hl a (List.mem_cons_of_mem _ ha)) h e
set_option maxHeartbeats 2000000 in
set_option maxRecDepth 20000 in
theorem l_X7_isLineFitted {lay : List zL} {Q : Value → zI → zJ → Prop} {I : zI} {d s t w l g sa sb : Nat} {n : Nat → Nat} {J0 : zJ} (hS : kS lay s) (hV : vS I s n) (hB : bS n) (hT : kT lay t) (hw : w ≤ 2) (hl : l < 2147483648) (hg : g ≤ 60) (hp : zbd (sa, sb)) (hsa : 0 < sa) : ∀ (m i j : Nat) (m1 : Nat → Nat) (J : zJ) (w8 : Value), 4 * (n 0 - i) + (n 1 - j) < m → i < n 0 → j ≤ n 1 → vT I J t m1 → bT m1 → J (t + 3) 0 = lN sa → J (t + 3) 1 = lN sb → (∀ x, (x < t + 1 ∨ t + 4 < x) → J x = J0 x) → (∀ m' J', zfl (zP n w l) (g * sb) sa (zl (n 0) (n 1) (3 * i + j)) m1 = some m' → vT I J' t m' → bT m' → (∀ x, (x < t + 1 ∨ t + 4 < x) → J' x = J0 x) → Q (.int (nI 1)) I J') → (zfl (zP n w l) (g * sb) sa (zl (n 0) (n 1) (3 * i + j)) m1 = none → ∀ J', (∀ x, (x < t + 1 ∨ t + 4 < x) → J' x = J0 x) → Q (.int (nI 0)) I J') → Z lay MX7_isLineFitted (d + 2) 36 [.ref t, .ref s, .int (nI w), .int (nI l), .long (lN (g * sb)), .null, .int (nI i), .int (nI j), w8] [] I J Q := by
  have hS' := hS
  have hV' := hV
  have hB' := hB
  obtain ⟨h1, h2, h3, h4⟩ := hS
  obtain ⟨v0, v1, v2, v3, v4, v5⟩ := hV
  obtain ⟨b1, b2, b3, b4, b5, b6, b7, b8⟩ := hB
  have hT' := hT
  obtain ⟨t1, t2, t3, t4, t5⟩ := hT
  have hp9 : sa ≤ 999999 ∧ 1 ≤ sb ∧ sb ≤ 999999 := hp
  have hsb : g * sb ≤ 59999940 := Nat.le_trans (Nat.mul_le_mul hg hp.2.2) (by decide)
  intro m
  induction m with
  | zero => intro i j m1 J w8 h; exact absurd h (by omega)
  | succ m ih =>
    intro i j m1 J w8 hm hi hj hU hb hs0 hs1 hfr hq hn
    obtain ⟨w0, w1, w2⟩ := id hU
    refine z_iload (pc := 36) dX7_isLineFitted_36 rfl ?_
    refine z_aload_n (pc := 38) dX7_isLineFitted_38 rfl rfl ?_
    refine z_getIv (pc := 39) dX7_isLineFitted_39 f_RX7_53 (by assumption) rfl (by first | assumption | exact v3 _ (by omega) | exact v4 _ (by omega) | exact v5 _ (by omega) | exact w0 _ (by omega) | exact w1 _ (by omega) | exact zf0 | exact zf1 | exact zup_v (by omega) zf0 | exact zup_v (by omega) zf1 | rfl) ?_
    first | refine z_icmp_geN (pc := 42) (tgt := 148) (by with_reducible rfl) (by with_reducible rfl) dX7_isLineFitted_42 (by decide) (by omega) (by omega) (fun hb42 => ?_) (fun hb42 => ?_) | refine z_icmp_ge (pc := 42) (tgt := 148) dX7_isLineFitted_42 (by decide) (fun hb42 => ?_) (fun hb42 => ?_)
    · skip
      first | refine z_iincN (pc := 148) (c := 1) dX7_isLineFitted_148 rfl (by with_reducible rfl) (by decide) (by decide) rfl ?_ | refine z_iinc (pc := 148) dX7_isLineFitted_148 rfl rfl (by decide) rfl ?_
      try dsimp only [zst1, zst2, zk]
      refine z_goto (pc := 151) (tgt := 24) dX7_isLineFitted_151 (by decide) ?_
      refine z_iload (pc := 24) dX7_isLineFitted_24 rfl ?_
      refine z_aload_n (pc := 26) dX7_isLineFitted_26 rfl rfl ?_
      refine z_getIv (pc := 27) dX7_isLineFitted_27 f_RX7_50 (by assumption) rfl (by first | assumption | exact v3 _ (by omega) | exact v4 _ (by omega) | exact v5 _ (by omega) | exact w0 _ (by omega) | exact w1 _ (by omega) | exact zf0 | exact zf1 | exact zup_v (by omega) zf0 | exact zup_v (by omega) zf1 | rfl) ?_
      first | refine z_icmp_geN (pc := 30) (tgt := 154) (by with_reducible rfl) (by with_reducible rfl) dX7_isLineFitted_30 (by decide) (by omega) (by omega) (fun hb30 => ?_) (fun hb30 => ?_) | refine z_icmp_ge (pc := 30) (tgt := 154) dX7_isLineFitted_30 (by decide) (fun hb30 => ?_) (fun hb30 => ?_)
      · skip
        refine z_iconst (pc := 154) (v := nI 1) dX7_isLineFitted_154 (by decide) ?_
        refine z_zret (pc := 155) dX7_isLineFitted_155 rfl (by first | decide | assumption) ?_
        first
          | (obtain rfl : j = n 1 := (by omega); obtain h9 : i + 1 = n 0 := (by omega); exact hq m1 J (by rw [zl_row _ b2 _ b4 _ hi, h9, zl_end _ b2 _ b4]; rfl) hU hb hfr)
          | exact hn (by rw [zl_in _ b2 _ b4 _ hi _ (by omega)]; simp only [zfl]; rw [if_pos (by rw [decide_eq_true_eq]; exact hb55), hF2]; rfl) _ (fun x hx => by simp (disch := omega) only [zup_o]; exact hfr x hx)
          | fail
      · skip
        refine z_iconst (pc := 33) (v := nI 0) dX7_isLineFitted_33 (by decide) ?_
        refine z_istore (pc := 34) dX7_isLineFitted_34 (by decide) rfl ?_
        try dsimp only [zst1, zst2, zk]
        have eP : zP n w l (3 * i + j) = decide (zline (fun k => n (16 + k)) w (3 * i + j) = l) := rfl
        first
          | exact ih i (j + 1) m1 J _ (by omega) (by omega) (by omega) hU hb hs0 hs1 hfr (fun m' J' e => hq m' J' (by rw [zl_in _ b2 _ b4 _ hi _ (by omega)]; simp only [zfl]; rw [if_neg (by rw [eP, decide_eq_true_eq]; exact hb55)]; exact e)) (fun e => hn (by rw [zl_in _ b2 _ b4 _ hi _ (by omega)]; simp only [zfl]; rw [if_neg (by rw [eP, decide_eq_true_eq]; exact hb55)]; exact e))
          | exact ih i (j + 1) (zset m1 (3 * i + j) (zred (m1 (34 + (3 * i + j)) * (g * sb)) (m1 (43 + (3 * i + j)) * sa))) _ _ (by omega) (by omega) (by omega) (zset_vT (f := t + 4) (q := zred (m1 (34 + (3 * i + j)) * (g * sb)) (m1 (43 + (3 * i + j)) * sa)) hU hk9 (by omega) (by omega)) (zset_bT hb hk9 ⟨hF.1, zred_pos q4, hF.2⟩) (by simp (disch := omega) only [zup_o]; exact hs0) (by simp (disch := omega) only [zup_o]; exact hs1) (fun x hx => by simp (disch := omega) only [zup_o]; exact hfr x hx) (fun m' J' e => hq m' J' (by rw [zl_in _ b2 _ b4 _ hi _ (by omega)]; simp only [zfl]; rw [if_pos (by rw [eP, decide_eq_true_eq]; exact hb55), hF2]; exact e)) (fun e => hn (by rw [zl_in _ b2 _ b4 _ hi _ (by omega)]; simp only [zfl]; rw [if_pos (by rw [eP, decide_eq_true_eq]; exact hb55), hF2]; exact e))
          | exact ih (i + 1) 0 m1 J _ (by omega) (by omega) (by omega) hU hb hs0 hs1 hfr (fun m' J' e => hq m' J' (by obtain rfl : j = n 1 := (by omega); rw [zl_row _ b2 _ b4 _ hi]; exact e)) (fun e => hn (by obtain rfl : j = n 1 := (by omega); rw [zl_row _ b2 _ b4 _ hi]; exact e))
          | fail
    · skip
      refine z_aload_n (pc := 45) dX7_isLineFitted_45 rfl rfl ?_
      refine z_iload_n (pc := 46) dX7_isLineFitted_46 rfl rfl ?_
      refine z_iload (pc := 47) dX7_isLineFitted_47 rfl ?_
      have hzl : zline (fun k => n (16 + k)) w (3 * i + j) < 2147483648 := by
        have h7 : n (16 + (3 * i + j)) ≤ 2 := b7 (3 * i + j) (by omega)
        unfold zline
        split
        · omega
        · split
          · omega
          · exact Nat.lt_of_le_of_lt h7 (by decide)
      refine z_iload (pc := 49) dX7_isLineFitted_49 rfl ?_
      refine z_callV (pc := 51) (c_X6_lineOf (by assumption) (by assumption) (by assumption) (by omega) (by omega) (by omega)) dX7_isLineFitted_51 l_RX7_64 m_MX6_lineOf n_MX6_lineOf e_MX6_lineOf rfl (by omega) (by assumption) rfl rfl (Nat.le_of_ble_eq_true rfl) ?_
      rintro _ _ _ (⟨rfl, rfl, rfl⟩)
      try dsimp only [zov, Option.toList, List.cons_append, List.nil_append]
      refine z_iload_n (pc := 54) dX7_isLineFitted_54 rfl rfl ?_
      first | refine z_icmp_eqN (pc := 55) (tgt := 61) (by with_reducible rfl) (by with_reducible rfl) dX7_isLineFitted_55 (by decide) (by omega) (by omega) (fun hb55 => ?_) (fun hb55 => ?_) | refine z_icmp_eq (pc := 55) (tgt := 61) dX7_isLineFitted_55 (by decide) (fun hb55 => ?_) (fun hb55 => ?_)
      · skip
        refine z_iload (pc := 61) dX7_isLineFitted_61 rfl ?_
        refine z_iload (pc := 63) dX7_isLineFitted_63 rfl ?_
        refine z_callN (pc := 65) c_X9_place dX7_isLineFitted_65 zN_56 m_MX9_place s_MX9_place rfl (by omega) rfl (Nat.le_of_ble_eq_true rfl) ?_
        rintro _ _ _ (⟨rfl, rfl, rfl⟩)
        try dsimp only [zov, Option.toList, List.cons_append, List.nil_append]
        refine z_istore (pc := 68) dX7_isLineFitted_68 (by decide) rfl ?_
        try dsimp only [zst1, zst2, zk]
        have hk9 : 3 * i + j < 9 := by omega
        have hbk := hb (3 * i + j) hk9
        have q1 := zmul3 hbk.1 hg hp9.2.2
        have q2 := zmul2 hbk.2.2 hp9.1
        have q4 : 0 < (m1 (43 + (3 * i + j)) * sa) := Nat.mul_pos hbk.2.1 hsa
        have hd1 : (m1 (34 + (3 * i + j)) * (g * sb)) / Nat.gcd (m1 (43 + (3 * i + j)) * sa) (m1 (34 + (3 * i + j)) * (g * sb)) ≤ (m1 (34 + (3 * i + j)) * (g * sb)) := Nat.div_le_self _ _
        have hd2 : (m1 (43 + (3 * i + j)) * sa) / Nat.gcd (m1 (43 + (3 * i + j)) * sa) (m1 (34 + (3 * i + j)) * (g * sb)) ≤ (m1 (43 + (3 * i + j)) * sa) := Nat.div_le_self _ _
        refine z_aload_n (pc := 70) dX7_isLineFitted_70 rfl rfl ?_
        refine z_getR (pc := 71) dX7_isLineFitted_71 f_RX7_25 (by assumption) rfl ?_
        refine z_aload_n (pc := 74) dX7_isLineFitted_74 rfl rfl ?_
        refine z_getR (pc := 75) dX7_isLineFitted_75 f_RX7_9 (by assumption) rfl ?_
        refine z_iload (pc := 78) dX7_isLineFitted_78 rfl ?_
        refine z_laloadv (pc := 80) dX7_isLineFitted_80 (by assumption) (by with_reducible rfl) (by omega) (by decide) (by first | assumption | exact v3 _ (by omega) | exact v4 _ (by omega) | exact v5 _ (by omega) | exact w0 _ (by omega) | exact w1 _ (by omega) | exact zf0 | exact zf1 | exact zup_v (by omega) zf0 | exact zup_v (by omega) zf1 | rfl) ?_
        refine z_lload (pc := 81) dX7_isLineFitted_81 rfl ?_
        first | refine z_lmulN (pc := 83) (by with_reducible rfl) (by with_reducible rfl) dX7_isLineFitted_83 ?_ | refine z_lmul (pc := 83) dX7_isLineFitted_83 ?_
        refine z_aload_n (pc := 84) dX7_isLineFitted_84 rfl rfl ?_
        refine z_getR (pc := 85) dX7_isLineFitted_85 f_RX7_15 (by assumption) rfl ?_
        refine z_iload (pc := 88) dX7_isLineFitted_88 rfl ?_
        refine z_laloadv (pc := 90) dX7_isLineFitted_90 (by assumption) (by with_reducible rfl) (by omega) (by decide) (by first | assumption | exact v3 _ (by omega) | exact v4 _ (by omega) | exact v5 _ (by omega) | exact w0 _ (by omega) | exact w1 _ (by omega) | exact zf0 | exact zf1 | exact zup_v (by omega) zf0 | exact zup_v (by omega) zf1 | rfl) ?_
        refine z_aload_n (pc := 91) dX7_isLineFitted_91 rfl rfl ?_
        refine z_getR (pc := 92) dX7_isLineFitted_92 f_RX7_21 (by assumption) rfl ?_
        refine z_getJv (pc := 95) dX7_isLineFitted_95 f_RX7_83 (by assumption) rfl (by first | assumption | exact v3 _ (by omega) | exact v4 _ (by omega) | exact v5 _ (by omega) | exact w0 _ (by omega) | exact w1 _ (by omega) | exact zf0 | exact zf1 | exact zup_v (by omega) zf0 | exact zup_v (by omega) zf1 | rfl) ?_
        first | refine z_lmulN (pc := 98) (by with_reducible rfl) (by with_reducible rfl) dX7_isLineFitted_98 ?_ | refine z_lmul (pc := 98) dX7_isLineFitted_98 ?_
        refine z_callV (pc := 99) (c_X0_become (by assumption) (by omega) (by omega) (by omega)) dX7_isLineFitted_99 l_RX7_60 m_MX0_become n_MX0_become e_MX0_become rfl (by omega) (by assumption) rfl rfl (Nat.le_of_ble_eq_true rfl) ?_
        rintro _ _ _ (⟨rfl, rfl, rfl⟩)
        try dsimp only [zov, Option.toList, List.cons_append, List.nil_append]
        refine z_aload_n (pc := 102) dX7_isLineFitted_102 rfl rfl ?_
        refine z_getR (pc := 103) dX7_isLineFitted_103 f_RX7_25 (by assumption) rfl ?_
        refine z_callV (pc := 106) (c_X0_isFine (by assumption) zf0 zf1 (by omega) (by omega)) dX7_isLineFitted_106 l_RX7_71 m_MX0_isFine n_MX0_isFine e_MX0_isFine rfl (by omega) (by assumption) rfl rfl (Nat.le_of_ble_eq_true rfl) ?_
        rintro _ _ _ ⟨⟨rfl, hF⟩ | ⟨rfl, hF⟩, rfl, rfl⟩
        · have hF2 : zok (zred (m1 (34 + (3 * i + j)) * (g * sb)) (m1 (43 + (3 * i + j)) * sa)) = false := decide_eq_false hF
          try dsimp only [zov, Option.toList, List.cons_append, List.nil_append]
          first | refine z_if_eqN (pc := 109) (tgt := 114) (by with_reducible rfl) dX7_isLineFitted_109 (by decide) (by omega) (fun hb109 => absurd hb109 (by decide)) (fun hb109 => ?_) | refine z_if_eq (pc := 109) (tgt := 114) dX7_isLineFitted_109 (by decide) (fun hb109 => absurd hb109 (by decide)) (fun hb109 => ?_)
          · skip
            refine z_iconst (pc := 112) (v := nI 0) dX7_isLineFitted_112 (by decide) ?_
            refine z_zret (pc := 113) dX7_isLineFitted_113 rfl (by first | decide | assumption) ?_
            first
              | (obtain rfl : j = n 1 := (by omega); obtain h9 : i + 1 = n 0 := (by omega); exact hq m1 J (by rw [zl_row _ b2 _ b4 _ hi, h9, zl_end _ b2 _ b4]; rfl) hU hb hfr)
              | exact hn (by rw [zl_in _ b2 _ b4 _ hi _ (by omega)]; simp only [zfl]; rw [if_pos (by rw [decide_eq_true_eq]; exact hb55), hF2]; rfl) _ (fun x hx => by simp (disch := omega) only [zup_o]; exact hfr x hx)
              | fail
        · have hF2 : zok (zred (m1 (34 + (3 * i + j)) * (g * sb)) (m1 (43 + (3 * i + j)) * sa)) = true := decide_eq_true hF
          try dsimp only [zov, Option.toList, List.cons_append, List.nil_append]
          first | refine z_if_eqN (pc := 109) (tgt := 114) (by with_reducible rfl) dX7_isLineFitted_109 (by decide) (by omega) (fun hb109 => ?_) (fun hb109 => absurd hb109 (by decide)) | refine z_if_eq (pc := 109) (tgt := 114) dX7_isLineFitted_109 (by decide) (fun hb109 => ?_) (fun hb109 => absurd hb109 (by decide))
          · skip
            refine z_aload_n (pc := 114) dX7_isLineFitted_114 rfl rfl ?_
            refine z_getR (pc := 115) dX7_isLineFitted_115 f_RX7_9 (by assumption) rfl ?_
            refine z_iload (pc := 118) dX7_isLineFitted_118 rfl ?_
            refine z_aload_n (pc := 120) dX7_isLineFitted_120 rfl rfl ?_
            refine z_getR (pc := 121) dX7_isLineFitted_121 f_RX7_25 (by assumption) rfl ?_
            refine z_getJv (pc := 124) dX7_isLineFitted_124 f_RX7_83 (by assumption) rfl (by first | assumption | exact v3 _ (by omega) | exact v4 _ (by omega) | exact v5 _ (by omega) | exact w0 _ (by omega) | exact w1 _ (by omega) | exact zf0 | exact zf1 | exact zup_v (by omega) zf0 | exact zup_v (by omega) zf1 | rfl) ?_
            refine z_lastore (pc := 127) dX7_isLineFitted_127 (by assumption) (by with_reducible rfl) (by omega) (by decide) ?_
            refine z_aload_n (pc := 128) dX7_isLineFitted_128 rfl rfl ?_
            refine z_getR (pc := 129) dX7_isLineFitted_129 f_RX7_15 (by assumption) rfl ?_
            refine z_iload (pc := 132) dX7_isLineFitted_132 rfl ?_
            refine z_aload_n (pc := 134) dX7_isLineFitted_134 rfl rfl ?_
            refine z_getR (pc := 135) dX7_isLineFitted_135 f_RX7_25 (by assumption) rfl ?_
            refine z_getJv (pc := 138) dX7_isLineFitted_138 f_RX7_93 (by assumption) rfl (by first | assumption | exact v3 _ (by omega) | exact v4 _ (by omega) | exact v5 _ (by omega) | exact w0 _ (by omega) | exact w1 _ (by omega) | exact zf0 | exact zf1 | exact zup_v (by omega) zf0 | exact zup_v (by omega) zf1 | rfl) ?_
            refine z_lastore (pc := 141) dX7_isLineFitted_141 (by assumption) (by with_reducible rfl) (by omega) (by decide) ?_
            first | refine z_iincN (pc := 142) (c := 1) dX7_isLineFitted_142 rfl (by with_reducible rfl) (by decide) (by decide) rfl ?_ | refine z_iinc (pc := 142) dX7_isLineFitted_142 rfl rfl (by decide) rfl ?_
            try dsimp only [zst1, zst2, zk]
            refine z_goto (pc := 145) (tgt := 36) dX7_isLineFitted_145 (by decide) ?_
            have eP : zP n w l (3 * i + j) = decide (zline (fun k => n (16 + k)) w (3 * i + j) = l) := rfl
            first
              | exact ih i (j + 1) m1 J _ (by omega) (by omega) (by omega) hU hb hs0 hs1 hfr (fun m' J' e => hq m' J' (by rw [zl_in _ b2 _ b4 _ hi _ (by omega)]; simp only [zfl]; rw [if_neg (by rw [eP, decide_eq_true_eq]; exact hb55)]; exact e)) (fun e => hn (by rw [zl_in _ b2 _ b4 _ hi _ (by omega)]; simp only [zfl]; rw [if_neg (by rw [eP, decide_eq_true_eq]; exact hb55)]; exact e))
              | exact ih i (j + 1) (zset m1 (3 * i + j) (zred (m1 (34 + (3 * i + j)) * (g * sb)) (m1 (43 + (3 * i + j)) * sa))) _ _ (by omega) (by omega) (by omega) (zset_vT (f := t + 4) (q := zred (m1 (34 + (3 * i + j)) * (g * sb)) (m1 (43 + (3 * i + j)) * sa)) hU hk9 (by omega) (by omega)) (zset_bT hb hk9 ⟨hF.1, zred_pos q4, hF.2⟩) (by simp (disch := omega) only [zup_o]; exact hs0) (by simp (disch := omega) only [zup_o]; exact hs1) (fun x hx => by simp (disch := omega) only [zup_o]; exact hfr x hx) (fun m' J' e => hq m' J' (by rw [zl_in _ b2 _ b4 _ hi _ (by omega)]; simp only [zfl]; rw [if_pos (by rw [eP, decide_eq_true_eq]; exact hb55), hF2]; exact e)) (fun e => hn (by rw [zl_in _ b2 _ b4 _ hi _ (by omega)]; simp only [zfl]; rw [if_pos (by rw [eP, decide_eq_true_eq]; exact hb55), hF2]; exact e))
              | exact ih (i + 1) 0 m1 J _ (by omega) (by omega) (by omega) hU hb hs0 hs1 hfr (fun m' J' e => hq m' J' (by obtain rfl : j = n 1 := (by omega); rw [zl_row _ b2 _ b4 _ hi]; exact e)) (fun e => hn (by obtain rfl : j = n 1 := (by omega); rw [zl_row _ b2 _ b4 _ hi]; exact e))
              | fail
      · skip
        refine z_goto (pc := 58) (tgt := 142) dX7_isLineFitted_58 (by decide) ?_
        first | refine z_iincN (pc := 142) (c := 1) dX7_isLineFitted_142 rfl (by with_reducible rfl) (by decide) (by decide) rfl ?_ | refine z_iinc (pc := 142) dX7_isLineFitted_142 rfl rfl (by decide) rfl ?_
        try dsimp only [zst1, zst2, zk]
        refine z_goto (pc := 145) (tgt := 36) dX7_isLineFitted_145 (by decide) ?_
        have eP : zP n w l (3 * i + j) = decide (zline (fun k => n (16 + k)) w (3 * i + j) = l) := rfl
        first
          | exact ih i (j + 1) m1 J _ (by omega) (by omega) (by omega) hU hb hs0 hs1 hfr (fun m' J' e => hq m' J' (by rw [zl_in _ b2 _ b4 _ hi _ (by omega)]; simp only [zfl]; rw [if_neg (by rw [eP, decide_eq_true_eq]; exact hb55)]; exact e)) (fun e => hn (by rw [zl_in _ b2 _ b4 _ hi _ (by omega)]; simp only [zfl]; rw [if_neg (by rw [eP, decide_eq_true_eq]; exact hb55)]; exact e))
          | exact ih i (j + 1) (zset m1 (3 * i + j) (zred (m1 (34 + (3 * i + j)) * (g * sb)) (m1 (43 + (3 * i + j)) * sa))) _ _ (by omega) (by omega) (by omega) (zset_vT (f := t + 4) (q := zred (m1 (34 + (3 * i + j)) * (g * sb)) (m1 (43 + (3 * i + j)) * sa)) hU hk9 (by omega) (by omega)) (zset_bT hb hk9 ⟨hF.1, zred_pos q4, hF.2⟩) (by simp (disch := omega) only [zup_o]; exact hs0) (by simp (disch := omega) only [zup_o]; exact hs1) (fun x hx => by simp (disch := omega) only [zup_o]; exact hfr x hx) (fun m' J' e => hq m' J' (by rw [zl_in _ b2 _ b4 _ hi _ (by omega)]; simp only [zfl]; rw [if_pos (by rw [eP, decide_eq_true_eq]; exact hb55), hF2]; exact e)) (fun e => hn (by rw [zl_in _ b2 _ b4 _ hi _ (by omega)]; simp only [zfl]; rw [if_pos (by rw [eP, decide_eq_true_eq]; exact hb55), hF2]; exact e))
          | exact ih (i + 1) 0 m1 J _ (by omega) (by omega) (by omega) hU hb hs0 hs1 hfr (fun m' J' e => hq m' J' (by obtain rfl : j = n 1 := (by omega); rw [zl_row _ b2 _ b4 _ hi]; exact e)) (fun e => hn (by obtain rfl : j = n 1 := (by omega); rw [zl_row _ b2 _ b4 _ hi]; exact e))
          | fail
set_option maxHeartbeats 2000000 in
set_option maxRecDepth 20000 in
theorem c_X7_isLineFitted {lay : List zL} {I : zI} {J : zJ} {s t w l sa sb : Nat} {n m1 : Nat → Nat} (hS : kS lay s) (hV : vS I s n) (hB : bS n) (hT : kT lay t) (hU : vT I J t m1) (hb : bT m1) (hw : w ≤ 2) (hl : l < zlines (n 0) (n 1) w) (hs0 : J (t + 3) 0 = lN sa) (hs1 : J (t + 3) 1 = lN sb) (hp : zbd (sa, sb)) (hsa : 0 < sa) : zMet lay MX7_isLineFitted 2 [.ref t, .ref s, .int (nI w), .int (nI l)] I J (fun r I' J' => ((r = .int (nI 1) ∧ ∃ m', zfl (zP n w l) (n (25 + (3 * w + l)) * sb) sa (zl (n 0) (n 1) 0) m1 = some m' ∧ vT I' J' t m' ∧ bT m') ∨ (r = .int (nI 0) ∧ zfl (zP n w l) (n (25 + (3 * w + l)) * sb) sa (zl (n 0) (n 1) 0) m1 = none)) ∧ I = I' ∧ ∀ x, (x < t + 1 ∨ t + 4 < x) → J' x = J x) := by
  refine zMet_of (t := MX7_isLineFitted) (ls := [.ref t, .ref s, .int (nI w), .int (nI l), .null, .null, .null, .null, .null]) (by decide +kernel) (Nat.le_of_ble_eq_true rfl) rfl ?_
  have hS' := hS
  have hV' := hV
  have hB' := hB
  obtain ⟨h1, h2, h3, h4⟩ := hS
  obtain ⟨v0, v1, v2, v3, v4, v5⟩ := hV
  obtain ⟨b1, b2, b3, b4, b5, b6, b7, b8⟩ := hB
  have hT' := hT
  obtain ⟨t1, t2, t3, t4, t5⟩ := hT
  have hzl := zlines_le (w := w) b2 b4
  have hg := b8 (3 * w + l) (by omega)
  refine z_aload_n (pc := 0) dX7_isLineFitted_0 rfl rfl ?_
  refine z_getR (pc := 1) dX7_isLineFitted_1 f_RX7_90 (by assumption) rfl ?_
  refine z_iload_n (pc := 4) dX7_isLineFitted_4 rfl rfl ?_
  refine z_iload_n (pc := 5) dX7_isLineFitted_5 rfl rfl ?_
  refine z_callN (pc := 6) c_X9_place dX7_isLineFitted_6 zN_56 m_MX9_place s_MX9_place rfl (by omega) rfl (Nat.le_of_ble_eq_true rfl) ?_
  rintro _ _ _ (⟨rfl, rfl, rfl⟩)
  try dsimp only [zov, Option.toList, List.cons_append, List.nil_append]
  refine z_ialoadv (pc := 9) dX7_isLineFitted_9 (by assumption) (by with_reducible rfl) (by omega) (by decide) (by first | assumption | exact v3 _ (by omega) | exact v4 _ (by omega) | exact v5 _ (by omega) | rfl) ?_
  first | refine z_i2lN (pc := 10) (by with_reducible rfl) dX7_isLineFitted_10 (by omega) ?_ | refine z_i2l (pc := 10) dX7_isLineFitted_10 rfl ?_
  refine z_aload_n (pc := 11) dX7_isLineFitted_11 rfl rfl ?_
  refine z_getR (pc := 12) dX7_isLineFitted_12 f_RX7_21 (by assumption) rfl ?_
  refine z_getJv (pc := 15) dX7_isLineFitted_15 f_RX7_93 (by assumption) rfl (by first | assumption | exact v3 _ (by omega) | exact v4 _ (by omega) | exact v5 _ (by omega) | rfl) ?_
  first | refine z_lmulN (pc := 18) (by with_reducible rfl) (by with_reducible rfl) dX7_isLineFitted_18 ?_ | refine z_lmul (pc := 18) dX7_isLineFitted_18 ?_
  refine z_lstore (pc := 19) dX7_isLineFitted_19 (by decide) rfl ?_
  try dsimp only [zst1, zst2, zk]
  refine z_iconst (pc := 21) (v := nI 0) dX7_isLineFitted_21 (by decide) ?_
  refine z_istore (pc := 22) dX7_isLineFitted_22 (by decide) rfl ?_
  try dsimp only [zst1, zst2, zk]
  refine z_iload (pc := 24) dX7_isLineFitted_24 rfl ?_
  refine z_aload_n (pc := 26) dX7_isLineFitted_26 rfl rfl ?_
  refine z_getIv (pc := 27) dX7_isLineFitted_27 f_RX7_50 (by assumption) rfl (by first | assumption | exact v3 _ (by omega) | exact v4 _ (by omega) | exact v5 _ (by omega) | rfl) ?_
  first | refine z_icmp_geN (pc := 30) (tgt := 154) (by with_reducible rfl) (by with_reducible rfl) dX7_isLineFitted_30 (by decide) (by omega) (by omega) (fun hb30 => absurd hb30 (by omega)) (fun hb30 => ?_) | refine z_icmp_ge (pc := 30) (tgt := 154) dX7_isLineFitted_30 (by decide) (fun hb30 => absurd hb30 (by omega)) (fun hb30 => ?_)
  · skip
    refine z_iconst (pc := 33) (v := nI 0) dX7_isLineFitted_33 (by decide) ?_
    refine z_istore (pc := 34) dX7_isLineFitted_34 (by decide) rfl ?_
    try dsimp only [zst1, zst2, zk]
    exact l_X7_isLineFitted (J0 := J) hS' hV' hB' hT' hw (by omega) hg hp hsa 100 0 0 m1 J _ (by omega) (by omega) (by omega) hU hb hs0 hs1 (fun _ _ => rfl) (fun m' J' e e1 e2 hfr => ⟨Or.inl ⟨rfl, m', e, e1, e2⟩, rfl, hfr⟩) (fun e J' hfr => ⟨Or.inr ⟨rfl, e⟩, rfl, hfr⟩)
/-- a fit by a way, from a line on -/
def zfits (n : Nat → Nat) (w : Nat) : Nat → Nat → (Nat → Nat) → Option (Nat → Nat)
  | 0, _, m => some m
  | f + 1, l, m => match zsm n m w l with
    | none => none
    | some p => if 0 < p.1 then (match zfl (zP n w l) (n (25 + (3 * w + l)) * p.2) p.1 (zl (n 0) (n 1) 0) m with
      | none => none
      | some m' => zfits n w f (l + 1) m') else zfits n w f (l + 1) m
def zfit (n : Nat → Nat) (w : Nat) (m : Nat → Nat) : Option (Nat → Nat) := zfits n w (zlines (n 0) (n 1) w) 0 m
set_option maxHeartbeats 2000000 in
set_option maxRecDepth 20000 in
theorem l_X7_isFitted {lay : List zL} {Q : Value → zI → zJ → Prop} {I : zI} {d s t w : Nat} {n : Nat → Nat} {J0 : zJ} (hS : kS lay s) (hV : vS I s n) (hB : bS n) (hT : kT lay t) (hw : w ≤ 2) : ∀ (m k : Nat) (m1 : Nat → Nat) (J : zJ), k + m = zlines (n 0) (n 1) w → vT I J t m1 → bT m1 → (∀ x, (x < t + 1 ∨ t + 4 < x) → J x = J0 x) → (∀ m' J', zfits n w m k m1 = some m' → vT I J' t m' → bT m' → (∀ x, (x < t + 1 ∨ t + 4 < x) → J' x = J0 x) → Q (.int (nI 1)) I J') → (zfits n w m k m1 = none → ∀ J', (∀ x, (x < t + 1 ∨ t + 4 < x) → J' x = J0 x) → Q (.int (nI 0)) I J') → Z lay MX7_isFitted (d + 3) 2 [.ref t, .ref s, .int (nI w), .int (nI k)] [] I J Q := by
  have hS' := hS
  have hV' := hV
  have hB' := hB
  obtain ⟨h1, h2, h3, h4⟩ := hS
  obtain ⟨v0, v1, v2, v3, v4, v5⟩ := hV
  obtain ⟨b1, b2, b3, b4, b5, b6, b7, b8⟩ := hB
  have hT' := hT
  obtain ⟨t1, t2, t3, t4, t5⟩ := hT
  have hzl := zlines_le (w := w) b2 b4
  intro m
  induction m with
  | zero =>
    intro k m1 J hk hU hb hfr hq hn
    refine z_iload_n (pc := 2) dX7_isFitted_2 rfl rfl ?_
    refine z_aload_n (pc := 3) dX7_isFitted_3 rfl rfl ?_
    refine z_iload_n (pc := 4) dX7_isFitted_4 rfl rfl ?_
    refine z_callV (pc := 5) (c_X6_lines (by assumption) (by assumption) (by assumption) (by omega)) dX7_isFitted_5 l_RX7_75 m_MX6_lines n_MX6_lines e_MX6_lines rfl (by omega) (by assumption) rfl rfl (Nat.le_of_ble_eq_true rfl) ?_
    rintro _ _ _ (⟨rfl, rfl, rfl⟩)
    try dsimp only [zov, Option.toList, List.cons_append, List.nil_append]
    first | refine z_icmp_geN (pc := 8) (tgt := 57) (by with_reducible rfl) (by with_reducible rfl) dX7_isFitted_8 (by decide) (by omega) (by omega) (fun hb8 => ?_) (fun hb8 => absurd hb8 (by omega)) | refine z_icmp_ge (pc := 8) (tgt := 57) dX7_isFitted_8 (by decide) (fun hb8 => ?_) (fun hb8 => absurd hb8 (by omega))
    · skip
      refine z_iconst (pc := 57) (v := nI 1) dX7_isFitted_57 (by decide) ?_
      refine z_zret (pc := 58) dX7_isFitted_58 rfl (by first | decide | assumption) ?_
      exact hq m1 J rfl hU hb hfr
  | succ m ih =>
    intro k m1 J hk hU hb hfr hq hn
    refine z_iload_n (pc := 2) dX7_isFitted_2 rfl rfl ?_
    refine z_aload_n (pc := 3) dX7_isFitted_3 rfl rfl ?_
    refine z_iload_n (pc := 4) dX7_isFitted_4 rfl rfl ?_
    refine z_callV (pc := 5) (c_X6_lines (by assumption) (by assumption) (by assumption) (by omega)) dX7_isFitted_5 l_RX7_75 m_MX6_lines n_MX6_lines e_MX6_lines rfl (by omega) (by assumption) rfl rfl (Nat.le_of_ble_eq_true rfl) ?_
    rintro _ _ _ (⟨rfl, rfl, rfl⟩)
    try dsimp only [zov, Option.toList, List.cons_append, List.nil_append]
    first | refine z_icmp_geN (pc := 8) (tgt := 57) (by with_reducible rfl) (by with_reducible rfl) dX7_isFitted_8 (by decide) (by omega) (by omega) (fun hb8 => absurd hb8 (by omega)) (fun hb8 => ?_) | refine z_icmp_ge (pc := 8) (tgt := 57) dX7_isFitted_8 (by decide) (fun hb8 => absurd hb8 (by omega)) (fun hb8 => ?_)
    · skip
      refine z_aload_n (pc := 11) dX7_isFitted_11 rfl rfl ?_
      refine z_aload_n (pc := 12) dX7_isFitted_12 rfl rfl ?_
      refine z_iload_n (pc := 13) dX7_isFitted_13 rfl rfl ?_
      refine z_iload_n (pc := 14) dX7_isFitted_14 rfl rfl ?_
      refine z_aload_n (pc := 15) dX7_isFitted_15 rfl rfl ?_
      refine z_getR (pc := 16) dX7_isFitted_16 f_RX7_21 (by assumption) rfl ?_
      refine z_callV (pc := 19) (c_X7_isSummed (by assumption) (by assumption) (by assumption) (by assumption) hU hb (by assumption) (by omega) (by omega) (by omega) (by omega)) dX7_isFitted_19 l_RX7_79 m_MX7_isSummed n_MX7_isSummed e_MX7_isSummed rfl (by omega) (by assumption) rfl rfl (Nat.le_of_ble_eq_true rfl) ?_
      rintro _ _ _ ⟨⟨rfl, q, eq1, e0, e1⟩ | ⟨rfl, eq1⟩, rfl, hfr1⟩
      · have hbq := zsm_bd hb eq1
        try dsimp only [zov, Option.toList, List.cons_append, List.nil_append]
        first | refine z_if_neN (pc := 22) (tgt := 27) (by with_reducible rfl) dX7_isFitted_22 (by decide) (by omega) (fun hb22 => ?_) (fun hb22 => absurd hb22 (by decide)) | refine z_if_ne (pc := 22) (tgt := 27) dX7_isFitted_22 (by decide) (fun hb22 => ?_) (fun hb22 => absurd hb22 (by decide))
        · skip
          refine z_aload_n (pc := 27) dX7_isFitted_27 rfl rfl ?_
          refine z_getR (pc := 28) dX7_isFitted_28 f_RX7_21 (by assumption) rfl ?_
          refine z_getJv (pc := 31) dX7_isFitted_31 f_RX7_83 (by assumption) rfl (by first | assumption | exact e0 | exact e1 | rfl) ?_
          have hq9 := hbq.1
          refine z_lconst (pc := 34) (v := lN 0) dX7_isFitted_34 rfl ?_
          first | refine z_lc_leN (pc := 35) (tgt := 51) (by with_reducible rfl) (by with_reducible rfl) dX7_isFitted_35 rfl dX7_isFitted_36 (by decide) (by omega) (by omega) (fun hb35 => ?_) (fun hb35 => ?_) | refine z_lc_le (pc := 35) (tgt := 51) dX7_isFitted_35 rfl dX7_isFitted_36 (by decide) (fun hb35 => ?_) (fun hb35 => ?_)
          · skip
            first | refine z_iincN (pc := 51) (c := 1) dX7_isFitted_51 rfl (by with_reducible rfl) (by decide) (by decide) rfl ?_ | refine z_iinc (pc := 51) dX7_isFitted_51 rfl rfl (by decide) rfl ?_
            try dsimp only [zst1, zst2, zk]
            refine z_goto (pc := 54) (tgt := 2) dX7_isFitted_54 (by decide) ?_
            first
              | exact ih (k + 1) m' _ (by omega) hU2 hb2 (fun x hx => (hfr2 x hx).trans ((hfr1 x (by omega)).trans (hfr x hx))) (fun m2 J' e => hq m2 J' (by simp only [zfits, eq1]; rw [if_pos hb36a, em]; exact e)) (fun e => hn (by simp only [zfits, eq1]; rw [if_pos hb36a, em]; exact e))
              | exact ih (k + 1) m1 _ (by omega) (vT_to hU rfl (hfr1 _ (by omega)) (hfr1 _ (by omega))) hb (fun x hx => (hfr1 x (by omega)).trans (hfr x hx)) (fun m2 J' e => hq m2 J' (by simp only [zfits, eq1]; rw [if_neg (by omega)]; exact e)) (fun e => hn (by simp only [zfits, eq1]; rw [if_neg (by omega)]; exact e))
              | fail
          · have hb36a : 0 < q.1 := (by omega)
            refine z_aload_n (pc := 39) dX7_isFitted_39 rfl rfl ?_
            refine z_aload_n (pc := 40) dX7_isFitted_40 rfl rfl ?_
            refine z_iload_n (pc := 41) dX7_isFitted_41 rfl rfl ?_
            refine z_iload_n (pc := 42) dX7_isFitted_42 rfl rfl ?_
            refine z_callV (pc := 43) (c_X7_isLineFitted (by assumption) (by assumption) (by assumption) (by assumption) (vT_to hU rfl (hfr1 _ (by omega)) (hfr1 _ (by omega))) hb (by omega) (by omega) e0 e1 hbq (by omega)) dX7_isFitted_43 l_RX7_86 m_MX7_isLineFitted n_MX7_isLineFitted e_MX7_isLineFitted rfl (by omega) (by assumption) rfl rfl (Nat.le_of_ble_eq_true rfl) ?_
            rintro _ _ _ ⟨⟨rfl, m', em, hU2, hb2⟩ | ⟨rfl, em⟩, rfl, hfr2⟩
            · skip
              try dsimp only [zov, Option.toList, List.cons_append, List.nil_append]
              first | refine z_if_neN (pc := 46) (tgt := 51) (by with_reducible rfl) dX7_isFitted_46 (by decide) (by omega) (fun hb46 => ?_) (fun hb46 => absurd hb46 (by decide)) | refine z_if_ne (pc := 46) (tgt := 51) dX7_isFitted_46 (by decide) (fun hb46 => ?_) (fun hb46 => absurd hb46 (by decide))
              · skip
                first | refine z_iincN (pc := 51) (c := 1) dX7_isFitted_51 rfl (by with_reducible rfl) (by decide) (by decide) rfl ?_ | refine z_iinc (pc := 51) dX7_isFitted_51 rfl rfl (by decide) rfl ?_
                try dsimp only [zst1, zst2, zk]
                refine z_goto (pc := 54) (tgt := 2) dX7_isFitted_54 (by decide) ?_
                first
                  | exact ih (k + 1) m' _ (by omega) hU2 hb2 (fun x hx => (hfr2 x hx).trans ((hfr1 x (by omega)).trans (hfr x hx))) (fun m2 J' e => hq m2 J' (by simp only [zfits, eq1]; rw [if_pos hb36a, em]; exact e)) (fun e => hn (by simp only [zfits, eq1]; rw [if_pos hb36a, em]; exact e))
                  | exact ih (k + 1) m1 _ (by omega) (vT_to hU rfl (hfr1 _ (by omega)) (hfr1 _ (by omega))) hb (fun x hx => (hfr1 x (by omega)).trans (hfr x hx)) (fun m2 J' e => hq m2 J' (by simp only [zfits, eq1]; rw [if_neg (by omega)]; exact e)) (fun e => hn (by simp only [zfits, eq1]; rw [if_neg (by omega)]; exact e))
                  | fail
            · skip
              try dsimp only [zov, Option.toList, List.cons_append, List.nil_append]
              first | refine z_if_neN (pc := 46) (tgt := 51) (by with_reducible rfl) dX7_isFitted_46 (by decide) (by omega) (fun hb46 => absurd hb46 (by decide)) (fun hb46 => ?_) | refine z_if_ne (pc := 46) (tgt := 51) dX7_isFitted_46 (by decide) (fun hb46 => absurd hb46 (by decide)) (fun hb46 => ?_)
              · skip
                refine z_iconst (pc := 49) (v := nI 0) dX7_isFitted_49 (by decide) ?_
                refine z_zret (pc := 50) dX7_isFitted_50 rfl (by first | decide | assumption) ?_
                first
                  | exact hn (by simp only [zfits, eq1]) _ (fun x hx => (hfr1 x (by omega)).trans (hfr x hx))
                  | exact hn (by simp only [zfits, eq1]; rw [if_pos hb36a, em]) _ (fun x hx => (hfr2 x hx).trans ((hfr1 x (by omega)).trans (hfr x hx)))
                  | fail
      · skip
        try dsimp only [zov, Option.toList, List.cons_append, List.nil_append]
        first | refine z_if_neN (pc := 22) (tgt := 27) (by with_reducible rfl) dX7_isFitted_22 (by decide) (by omega) (fun hb22 => absurd hb22 (by decide)) (fun hb22 => ?_) | refine z_if_ne (pc := 22) (tgt := 27) dX7_isFitted_22 (by decide) (fun hb22 => absurd hb22 (by decide)) (fun hb22 => ?_)
        · skip
          refine z_iconst (pc := 25) (v := nI 0) dX7_isFitted_25 (by decide) ?_
          refine z_zret (pc := 26) dX7_isFitted_26 rfl (by first | decide | assumption) ?_
          first
            | exact hn (by simp only [zfits, eq1]) _ (fun x hx => (hfr1 x (by omega)).trans (hfr x hx))
            | exact hn (by simp only [zfits, eq1]; rw [if_pos hb36a, em]) _ (fun x hx => (hfr2 x hx).trans ((hfr1 x (by omega)).trans (hfr x hx)))
            | fail
set_option maxHeartbeats 2000000 in
set_option maxRecDepth 20000 in
theorem c_X7_isFitted {lay : List zL} {I : zI} {J : zJ} {s t w : Nat} {n m1 : Nat → Nat} (hS : kS lay s) (hV : vS I s n) (hB : bS n) (hT : kT lay t) (hU : vT I J t m1) (hb : bT m1) (hw : w ≤ 2) : zMet lay MX7_isFitted 3 [.ref t, .ref s, .int (nI w)] I J (fun r I' J' => ((r = .int (nI 1) ∧ ∃ m', zfit n w m1 = some m' ∧ vT I' J' t m' ∧ bT m') ∨ (r = .int (nI 0) ∧ zfit n w m1 = none)) ∧ I = I' ∧ ∀ x, (x < t + 1 ∨ t + 4 < x) → J' x = J x) := by
  refine zMet_of (t := MX7_isFitted) (ls := [.ref t, .ref s, .int (nI w), .null]) (by decide +kernel) (Nat.le_of_ble_eq_true rfl) rfl ?_
  refine z_iconst (pc := 0) (v := nI 0) dX7_isFitted_0 (by decide) ?_
  refine z_istore_n (pc := 1) dX7_isFitted_1 rfl (by decide) rfl ?_
  try dsimp only [zst1, zst2, zk]
  exact l_X7_isFitted (J0 := J) hS hV hB hT hw _ 0 m1 J (Nat.zero_add _) hU hb (fun _ _ => rfl) (fun m' J' e e1 e2 hfr => ⟨Or.inl ⟨rfl, m', e, e1, e2⟩, rfl, hfr⟩) (fun e J' hfr => ⟨Or.inr ⟨rfl, e⟩, rfl, hfr⟩)
