/-! ===== the model: fits ===== -/
theorem zfits_b {n : Nat → Nat} {w : Nat} : ∀ (f l : Nat) (m m' : Nat → Nat), bT m → bG m → zfits n w f l m = some m' → bT m' ∧ bG m'
  | 0, _, m, m', h1, h2, h => by cases h; exact ⟨h1, h2⟩
  | f + 1, l, m, m', h1, h2, h => by
    unfold zfits at h
    split at h
    · cases h
    · split at h
      · split at h
        · cases h
        · rename_i hp _ m1 e
          have h3 := zfl_b hp _ _ _ (fun k hk => (zl_mem hk (by omega)).1) h1 h2 e
          exact zfits_b f (l + 1) _ _ h3.1 h3.2 h
      · exact zfits_b f (l + 1) _ _ h1 h2 h
/-- the rows of what a fit makes -/
def zthen (I : zI) (m : Nat → Nat) : Prop := ∀ j, j < 9 → I 85 j = nI (m (34 + j)) ∧ I 86 j = nI (m (43 + j))
def zf2 (I I' : zI) : Prop := ∀ x y, x ≠ 85 → x ≠ 86 → I' x y = I x y
theorem zf2_r (I : zI) : zf2 I I := fun _ _ _ _ => rfl
theorem zf2_t {I I1 I2 : zI} (h : zf2 I I1) (h2 : zf2 I1 I2) : zf2 I I2 := fun x y q1 q2 => (h2 x y q1 q2).trans (h x y q1 q2)
theorem zf2_u {I : zI} {j k : Nat} {a b : Int32} : zf2 I (zup (zup I 85 j a) 86 k b) := fun x y q1 q2 => by
  rw [zup_n _ _ (by omega), zup_n _ _ (by omega)]
theorem zthen_u {I : zI} {m : Nat → Nat} {k : Nat} {q : Nat × Nat} (h : zthen I m) (hk : k < 9) : zthen (zup (zup I 85 k (nI q.1)) 86 k (nI q.2)) (zset m k q) := by
  intro j hj
  by_cases e : j = k
  · rw [e, zset_1, zset_2 hk]
    exact ⟨by rw [zup_n _ _ (by omega)]; exact zup_s _ _ _ _, zup_s _ _ _ _⟩
  · rw [zset_n (by omega) (by omega), zset_n (by omega) (by omega), zup_n _ _ (by omega), zup_n _ _ (by omega), zup_n _ _ (by omega), zup_n _ _ (by omega)]
    exact h j hj
theorem zmul3q {a b c : Nat} (ha : a ≤ 999999) (hb : b ≤ 60) (hc : c ≤ 999999) : a * b * c ≤ 59999880000060 := by
  have h1 : a * b ≤ 999999 * 60 := Nat.mul_le_mul ha hb
  exact Nat.mul_le_mul h1 hc
set_option maxHeartbeats 2000000 in
set_option maxRecDepth 20000 in
theorem l_X10_fitsLine {lay : List zL} {Q : Value → zI → zJ → Prop} {n : Nat → Nat} {d w l sa sb : Nat} {I0 : zI} {J0 : zJ} (hM : kM lay) (hW0 : vW I0 n) (hB : bS n) (hT : bT n) (hw : w ≤ 2) (hl : l < zlines (n 0) (n 1) w) (hp : zbd (sa, sb)) (hsa : 0 < sa) : ∀ (mm k : Nat) (m : Nat → Nat) (I : zI) (J : zJ), k + mm = 9 → zthen I m → (∀ j, k ≤ j → j < 9 → zP n w l j = true → m (34 + j) = n (34 + j) ∧ m (43 + j) = n (43 + j)) → zf2 I0 I → zw2 J0 J → (∀ m' I' J', zflk n w l (n (25 + (3 * w + l)) * sb) sa k m = some m' → zthen I' m' → zf2 I0 I' → zw2 J0 J' → Q (.int (nI 1)) I' J') → (∀ I' J', zflk n w l (n (25 + (3 * w + l)) * sb) sa k m = none → zf2 I0 I' → zw2 J0 J' → Q (.int (nI 0)) I' J') → Z lay MX10_fitsLine (d + 4) 3 [.ref 79, .int (nI w), .int (nI l), .long (lN sa), .null, .long (lN sb), .null, .int (nI k)] [] I J Q := by
  intro mm
  induction mm with
  | zero =>
    intro k m I J hm hth hag hf hj hy hn
    obtain rfl : k = 9 := (by omega)
    refine z_iload (pc := 3) dX10_fitsLine_3 rfl ?_
    refine z_bipush (pc := 5) (v := nI 9) dX10_fitsLine_5 (by decide) ?_
    first | refine z_icmp_geN (pc := 7) (tgt := 95) (by with_reducible rfl) (by with_reducible rfl) dX10_fitsLine_7 (by decide) (by omega) (by omega) (fun hb7 => ?_) (fun hb7 => absurd hb7 (by omega)) | refine z_icmp_ge (pc := 7) (tgt := 95) dX10_fitsLine_7 (by decide) (fun hb7 => ?_) (fun hb7 => absurd hb7 (by omega))
    · skip
      refine z_iconst (pc := 95) (v := nI 1) dX10_fitsLine_95 (by decide) ?_
      refine z_zret (pc := 96) dX10_fitsLine_96 rfl (by first | decide | assumption) ?_
      exact hy m I J zflk_9 hth hf hj
  | succ mm ih =>
    intro k m I J hm hth hag hf hj hy hn
    have hW : vW I n := vW_to hW0 (fun y => hf 80 y (by omega) (by omega))
    obtain ⟨mo, m80, m81, m82, m83, m84, m85, m86, m87, m88, m89, m90, m91, m92, m93, m94, m95, m96⟩ := id hM
    have hwv := hW
    obtain ⟨b1, b2, b3, b4, b5, b6, b7, b8⟩ := id hB
    have ht := hT k (by omega)
    have hz := zlines_le (w := w) b2 b4
    have h60 := b8 (3 * w + l) (by omega)
    obtain ⟨hp1, hp2, hp3⟩ := id hp
    dsimp only at hp1 hp2 hp3
    have hx := zmul3q ht.1 h60 hp3
    have hyy : n (43 + k) * sa ≤ 999999 * 999999 := Nat.mul_le_mul ht.2.2 hp1
    have hy0 : 0 < n (43 + k) * sa := Nat.mul_pos ht.2.1 hsa
    refine z_iload (pc := 3) dX10_fitsLine_3 rfl ?_
    refine z_bipush (pc := 5) (v := nI 9) dX10_fitsLine_5 (by decide) ?_
    first | refine z_icmp_geN (pc := 7) (tgt := 95) (by with_reducible rfl) (by with_reducible rfl) dX10_fitsLine_7 (by decide) (by omega) (by omega) (fun hb7 => absurd hb7 (by omega)) (fun hb7 => ?_) | refine z_icmp_ge (pc := 7) (tgt := 95) dX10_fitsLine_7 (by decide) (fun hb7 => absurd hb7 (by omega)) (fun hb7 => ?_)
    · skip
      refine z_aload_n (pc := 10) dX10_fitsLine_10 rfl rfl ?_
      refine z_iload (pc := 11) dX10_fitsLine_11 rfl ?_
      refine z_iload_n (pc := 13) dX10_fitsLine_13 rfl rfl ?_
      refine z_iload_n (pc := 14) dX10_fitsLine_14 rfl rfl ?_
      refine z_callV (pc := 15) (c_X10_isIn hM hW hB (by omega) hw (by omega)) dX10_fitsLine_15 l_RX10_160 m_MX10_isIn n_MX10_isIn e_MX10_isIn rfl (by omega) (by assumption) rfl rfl (Nat.le_of_ble_eq_true rfl) ?_
      rintro _ _ _ ⟨⟨rfl, hc⟩ | ⟨rfl, hc⟩, rfl, rfl⟩
      · have hg := hag k (Nat.le_refl k) (by omega) hc.2; have eq : zred (m (34 + k) * (n (25 + (3 * w + l)) * sb)) (m (43 + k) * sa) = zred (n (34 + k) * n (25 + (3 * w + l)) * sb) (n (43 + k) * sa) := (by rw [hg.1, hg.2, Nat.mul_assoc])
        try dsimp only [zov, Option.toList, List.cons_append, List.nil_append]
        first | refine z_if_eqN (pc := 18) (tgt := 89) (by with_reducible rfl) dX10_fitsLine_18 (by decide) (by omega) (fun hb18 => absurd hb18 (by decide)) (fun hb18 => ?_) | refine z_if_eq (pc := 18) (tgt := 89) dX10_fitsLine_18 (by decide) (fun hb18 => absurd hb18 (by decide)) (fun hb18 => ?_)
        · skip
          refine z_aload_n (pc := 21) dX10_fitsLine_21 rfl rfl ?_
          refine z_aload_n (pc := 22) dX10_fitsLine_22 rfl rfl ?_
          refine z_getR (pc := 23) dX10_fitsLine_23 f_RX10_11 (by assumption) rfl ?_
          refine z_bipush (pc := 26) (v := nI 34) dX10_fitsLine_26 (by decide) ?_
          refine z_iload (pc := 28) dX10_fitsLine_28 rfl ?_
          first | refine z_iaddN (pc := 30) (by with_reducible rfl) (by with_reducible rfl) dX10_fitsLine_30 ?_ | refine z_iadd (pc := 30) dX10_fitsLine_30 ?_
          refine z_ialoadv (pc := 31) dX10_fitsLine_31 (by assumption) (by with_reducible rfl) (by omega) (by decide) (by first | assumption | exact hW _ (by omega) | exact (zup_n _ _ (by decide)).trans (zup_s _ _ _ _) | exact zup_s _ _ _ _ | rfl) ?_
          first | refine z_i2lN (pc := 32) (by with_reducible rfl) dX10_fitsLine_32 (by omega) ?_ | refine z_i2l (pc := 32) dX10_fitsLine_32 rfl ?_
          refine z_aload_n (pc := 33) dX10_fitsLine_33 rfl rfl ?_
          refine z_iload_n (pc := 34) dX10_fitsLine_34 rfl rfl ?_
          refine z_iload_n (pc := 35) dX10_fitsLine_35 rfl rfl ?_
          refine z_callV (pc := 36) (c_X10_marginAt hM hW hw (by omega)) dX10_fitsLine_36 l_RX10_102 m_MX10_marginAt n_MX10_marginAt e_MX10_marginAt rfl (by omega) (by assumption) rfl rfl (Nat.le_of_ble_eq_true rfl) ?_
          rintro _ _ _ (⟨rfl, rfl, rfl⟩)
          try dsimp only [zov, Option.toList, List.cons_append, List.nil_append]
          first | refine z_i2lN (pc := 39) (by with_reducible rfl) dX10_fitsLine_39 (by omega) ?_ | refine z_i2l (pc := 39) dX10_fitsLine_39 rfl ?_
          first | refine z_lmulN (pc := 40) (by with_reducible rfl) (by with_reducible rfl) dX10_fitsLine_40 ?_ | refine z_lmul (pc := 40) dX10_fitsLine_40 ?_
          refine z_lload (pc := 41) dX10_fitsLine_41 rfl ?_
          first | refine z_lmulN (pc := 43) (by with_reducible rfl) (by with_reducible rfl) dX10_fitsLine_43 ?_ | refine z_lmul (pc := 43) dX10_fitsLine_43 ?_
          refine z_aload_n (pc := 44) dX10_fitsLine_44 rfl rfl ?_
          refine z_getR (pc := 45) dX10_fitsLine_45 f_RX10_11 (by assumption) rfl ?_
          refine z_bipush (pc := 48) (v := nI 43) dX10_fitsLine_48 (by decide) ?_
          refine z_iload (pc := 50) dX10_fitsLine_50 rfl ?_
          first | refine z_iaddN (pc := 52) (by with_reducible rfl) (by with_reducible rfl) dX10_fitsLine_52 ?_ | refine z_iadd (pc := 52) dX10_fitsLine_52 ?_
          refine z_ialoadv (pc := 53) dX10_fitsLine_53 (by assumption) (by with_reducible rfl) (by omega) (by decide) (by first | assumption | exact hW _ (by omega) | exact (zup_n _ _ (by decide)).trans (zup_s _ _ _ _) | exact zup_s _ _ _ _ | rfl) ?_
          first | refine z_i2lN (pc := 54) (by with_reducible rfl) dX10_fitsLine_54 (by omega) ?_ | refine z_i2l (pc := 54) dX10_fitsLine_54 rfl ?_
          refine z_lload_n (pc := 55) dX10_fitsLine_55 rfl rfl ?_
          first | refine z_lmulN (pc := 56) (by with_reducible rfl) (by with_reducible rfl) dX10_fitsLine_56 ?_ | refine z_lmul (pc := 56) dX10_fitsLine_56 ?_
          refine z_callV (pc := 57) (c_X10_worksOut hM (by omega) (by omega) hy0) dX10_fitsLine_57 l_RX10_156 m_MX10_worksOut n_MX10_worksOut e_MX10_worksOut rfl (by omega) (by assumption) rfl rfl (Nat.le_of_ble_eq_true rfl) ?_
          rintro _ _ _ ⟨⟨rfl, hok⟩ | ⟨rfl, hok⟩, rfl, rfl⟩
          · skip
            try dsimp only [zov, Option.toList, List.cons_append, List.nil_append]
            first | refine z_if_neN (pc := 60) (tgt := 65) (by with_reducible rfl) dX10_fitsLine_60 (by decide) (by omega) (fun hb60 => ?_) (fun hb60 => absurd hb60 (by decide)) | refine z_if_ne (pc := 60) (tgt := 65) dX10_fitsLine_60 (by decide) (fun hb60 => ?_) (fun hb60 => absurd hb60 (by decide))
            · skip
              refine z_aload_n (pc := 65) dX10_fitsLine_65 rfl rfl ?_
              refine z_getR (pc := 66) dX10_fitsLine_66 f_RX10_27 (by assumption) rfl ?_
              refine z_iload (pc := 69) dX10_fitsLine_69 rfl ?_
              refine z_aload_n (pc := 71) dX10_fitsLine_71 rfl rfl ?_
              refine z_getJv (pc := 72) dX10_fitsLine_72 f_RX10_147 (by assumption) rfl (by first | assumption | exact hW _ (by omega) | exact (zup_n _ _ (by decide)).trans (zup_s _ _ _ _) | exact zup_s _ _ _ _ | rfl) ?_
              first | refine z_l2iN (pc := 75) (by with_reducible rfl) dX10_fitsLine_75 ?_ | refine z_l2i (pc := 75) dX10_fitsLine_75 rfl ?_
              refine z_iastore (pc := 76) dX10_fitsLine_76 (by assumption) (by with_reducible rfl) (by omega) (by decide) ?_
              refine z_aload_n (pc := 77) dX10_fitsLine_77 rfl rfl ?_
              refine z_getR (pc := 78) dX10_fitsLine_78 f_RX10_30 (by assumption) rfl ?_
              refine z_iload (pc := 81) dX10_fitsLine_81 rfl ?_
              refine z_aload_n (pc := 83) dX10_fitsLine_83 rfl rfl ?_
              refine z_getJv (pc := 84) dX10_fitsLine_84 f_RX10_151 (by assumption) rfl (by first | assumption | exact hW _ (by omega) | exact (zup_n _ _ (by decide)).trans (zup_s _ _ _ _) | exact zup_s _ _ _ _ | rfl) ?_
              first | refine z_l2iN (pc := 87) (by with_reducible rfl) dX10_fitsLine_87 ?_ | refine z_l2i (pc := 87) dX10_fitsLine_87 rfl ?_
              refine z_iastore (pc := 88) dX10_fitsLine_88 (by assumption) (by with_reducible rfl) (by omega) (by decide) ?_
              first | refine z_iincN (pc := 89) (c := 1) dX10_fitsLine_89 rfl (by with_reducible rfl) (by decide) (by decide) rfl ?_ | refine z_iinc (pc := 89) dX10_fitsLine_89 rfl rfl (by decide) rfl ?_
              try dsimp only [zst1, zst2, zk]
              refine z_goto (pc := 92) (tgt := 3) dX10_fitsLine_92 (by decide) ?_
              first
              | exact ih (k + 1) m I J (by omega) hth (fun j h1 h2 h3 => hag j (by omega) h2 h3) hf hj (fun m' I' J' h1 => hy m' I' J' (by rw [zflk_n (by omega) hc]; exact h1)) (fun I' J' h1 => hn I' J' (by rw [zflk_n (by omega) hc]; exact h1))
              | exact ih (k + 1) _ _ _ (by omega) (zthen_u hth (by omega)) (fun j h1 h2 h3 => by rw [zset_n (by omega) (by omega), zset_n (by omega) (by omega)]; exact hag j (by omega) h2 h3) (zf2_t hf zf2_u) (zw2_t hj zw2_u) (fun m' I' J' h1 => hy m' I' J' (by rw [zflk_y (by omega) hc (by rw [eq]; exact hok), eq]; exact h1)) (fun I' J' h1 => hn I' J' (by rw [zflk_y (by omega) hc (by rw [eq]; exact hok), eq]; exact h1))
              | fail
          · skip
            try dsimp only [zov, Option.toList, List.cons_append, List.nil_append]
            first | refine z_if_neN (pc := 60) (tgt := 65) (by with_reducible rfl) dX10_fitsLine_60 (by decide) (by omega) (fun hb60 => absurd hb60 (by decide)) (fun hb60 => ?_) | refine z_if_ne (pc := 60) (tgt := 65) dX10_fitsLine_60 (by decide) (fun hb60 => absurd hb60 (by decide)) (fun hb60 => ?_)
            · skip
              refine z_iconst (pc := 63) (v := nI 0) dX10_fitsLine_63 (by decide) ?_
              refine z_zret (pc := 64) dX10_fitsLine_64 rfl (by first | decide | assumption) ?_
              exact hn _ _ (zflk_f (by omega) hc (by rw [eq]; exact hok)) hf (zw2_t hj zw2_u)
      · skip
        try dsimp only [zov, Option.toList, List.cons_append, List.nil_append]
        first | refine z_if_eqN (pc := 18) (tgt := 89) (by with_reducible rfl) dX10_fitsLine_18 (by decide) (by omega) (fun hb18 => ?_) (fun hb18 => absurd hb18 (by decide)) | refine z_if_eq (pc := 18) (tgt := 89) dX10_fitsLine_18 (by decide) (fun hb18 => ?_) (fun hb18 => absurd hb18 (by decide))
        · skip
          first | refine z_iincN (pc := 89) (c := 1) dX10_fitsLine_89 rfl (by with_reducible rfl) (by decide) (by decide) rfl ?_ | refine z_iinc (pc := 89) dX10_fitsLine_89 rfl rfl (by decide) rfl ?_
          try dsimp only [zst1, zst2, zk]
          refine z_goto (pc := 92) (tgt := 3) dX10_fitsLine_92 (by decide) ?_
          first
          | exact ih (k + 1) m I J (by omega) hth (fun j h1 h2 h3 => hag j (by omega) h2 h3) hf hj (fun m' I' J' h1 => hy m' I' J' (by rw [zflk_n (by omega) hc]; exact h1)) (fun I' J' h1 => hn I' J' (by rw [zflk_n (by omega) hc]; exact h1))
          | exact ih (k + 1) _ _ _ (by omega) (zthen_u hth (by omega)) (fun j h1 h2 h3 => by rw [zset_n (by omega) (by omega), zset_n (by omega) (by omega)]; exact hag j (by omega) h2 h3) (zf2_t hf zf2_u) (zw2_t hj zw2_u) (fun m' I' J' h1 => hy m' I' J' (by rw [zflk_y (by omega) hc (by rw [eq]; exact hok), eq]; exact h1)) (fun I' J' h1 => hn I' J' (by rw [zflk_y (by omega) hc (by rw [eq]; exact hok), eq]; exact h1))
          | fail
set_option maxHeartbeats 2000000 in
set_option maxRecDepth 20000 in
theorem c_X10_fitsLine {lay : List zL} {I : zI} {J : zJ} {n m : Nat → Nat} (hM : kM lay) (hW : vW I n) (hB : bS n) (hT : bT n) {w l sa sb : Nat} (hw : w ≤ 2) (hl : l < zlines (n 0) (n 1) w) (hp : zbd (sa, sb)) (hsa : 0 < sa) (hth : zthen I m) (hag : ∀ j, j < 9 → zP n w l j = true → m (34 + j) = n (34 + j) ∧ m (43 + j) = n (43 + j)) : zMet lay MX10_fitsLine 4 [.ref 79, .int (nI w), .int (nI l), .long (lN sa), .long (lN sb)] I J (fun r I' J' => ((r = .int (nI 1) ∧ ∃ m', zfl (zP n w l) (n (25 + (3 * w + l)) * sb) sa (zl (n 0) (n 1) 0) m = some m' ∧ zthen I' m') ∨ (r = .int (nI 0) ∧ zfl (zP n w l) (n (25 + (3 * w + l)) * sb) sa (zl (n 0) (n 1) 0) m = none)) ∧ zf2 I I' ∧ zw2 J J') := by
  refine zMet_of (t := MX10_fitsLine) (ls := [.ref 79, .int (nI w), .int (nI l), .long (lN sa), .null, .long (lN sb), .null, .null]) (by decide +kernel) (Nat.le_of_ble_eq_true rfl) rfl ?_
  refine z_iconst (pc := 0) (v := nI 0) dX10_fitsLine_0 (by decide) ?_
  refine z_istore (pc := 1) dX10_fitsLine_1 (by decide) rfl ?_
  try dsimp only [zst1, zst2, zk]
  exact l_X10_fitsLine (d := 0) hM hW hB hT hw hl hp hsa 9 0 m _ _ rfl hth (fun j _ h2 h3 => hag j h2 h3) (zf2_r _) (zw2_r _) (fun m' I' J' h1 h2 h3 h4 => ⟨Or.inl ⟨rfl, m', h1, h2⟩, h3, h4⟩) (fun I' J' h1 h2 h3 => ⟨Or.inr ⟨rfl, h1⟩, h2, h3⟩)
set_option maxHeartbeats 2000000 in
set_option maxRecDepth 20000 in
theorem l1_X10_fits {lay : List zL} {Q : Value → zI → zJ → Prop} {n : Nat → Nat} {d w : Nat} {I0 : zI} {J : zJ} (hM : kM lay) (hW0 : vW I0 n) (K : ∀ I, zthen I n → zf2 I0 I → Z lay MX10_fits d 44 [.ref 79, .int (nI w), .int (nI 9), .null] [] I J Q) : ∀ (mm k : Nat) (I : zI), k + mm = 9 → (∀ j, j < k → I 85 j = nI (n (34 + j)) ∧ I 86 j = nI (n (43 + j))) → zf2 I0 I → Z lay MX10_fits d 2 [.ref 79, .int (nI w), .int (nI k), .null] [] I J Q := by
  intro mm
  induction mm with
  | zero =>
    intro k I hm hth hf
    obtain rfl : k = 9 := (by omega)
    refine z_iload_n (pc := 2) dX10_fits_2 rfl rfl ?_
    refine z_bipush (pc := 3) (v := nI 9) dX10_fits_3 (by decide) ?_
    first | refine z_icmp_geN (pc := 5) (tgt := 44) (by with_reducible rfl) (by with_reducible rfl) dX10_fits_5 (by decide) (by omega) (by omega) (fun hb5 => ?_) (fun hb5 => absurd hb5 (by omega)) | refine z_icmp_ge (pc := 5) (tgt := 44) dX10_fits_5 (by decide) (fun hb5 => ?_) (fun hb5 => absurd hb5 (by omega))
    · skip
      exact K I hth hf
  | succ mm ih =>
    intro k I hm hth hf
    have hW : vW I n := vW_to hW0 (fun y => hf 80 y (by omega) (by omega))
    have hWu : ∀ v, zup I 85 k v 80 (43 + k) = nI (n (43 + k)) := fun v => by rw [zup_n _ _ (by omega)]; exact hW _ (by omega)
    obtain ⟨mo, m80, m81, m82, m83, m84, m85, m86, m87, m88, m89, m90, m91, m92, m93, m94, m95, m96⟩ := id hM
    refine z_iload_n (pc := 2) dX10_fits_2 rfl rfl ?_
    refine z_bipush (pc := 3) (v := nI 9) dX10_fits_3 (by decide) ?_
    first | refine z_icmp_geN (pc := 5) (tgt := 44) (by with_reducible rfl) (by with_reducible rfl) dX10_fits_5 (by decide) (by omega) (by omega) (fun hb5 => absurd hb5 (by omega)) (fun hb5 => ?_) | refine z_icmp_ge (pc := 5) (tgt := 44) dX10_fits_5 (by decide) (fun hb5 => absurd hb5 (by omega)) (fun hb5 => ?_)
    · skip
      refine z_aload_n (pc := 8) dX10_fits_8 rfl rfl ?_
      refine z_getR (pc := 9) dX10_fits_9 f_RX10_27 (by assumption) rfl ?_
      refine z_iload_n (pc := 12) dX10_fits_12 rfl rfl ?_
      refine z_aload_n (pc := 13) dX10_fits_13 rfl rfl ?_
      refine z_getR (pc := 14) dX10_fits_14 f_RX10_11 (by assumption) rfl ?_
      refine z_bipush (pc := 17) (v := nI 34) dX10_fits_17 (by decide) ?_
      refine z_iload_n (pc := 19) dX10_fits_19 rfl rfl ?_
      first | refine z_iaddN (pc := 20) (by with_reducible rfl) (by with_reducible rfl) dX10_fits_20 ?_ | refine z_iadd (pc := 20) dX10_fits_20 ?_
      refine z_ialoadv (pc := 21) dX10_fits_21 (by assumption) (by with_reducible rfl) (by omega) (by decide) (by first | assumption | exact hW _ (by omega) | exact hWu _ | rfl) ?_
      refine z_iastore (pc := 22) dX10_fits_22 (by assumption) (by with_reducible rfl) (by omega) (by decide) ?_
      refine z_aload_n (pc := 23) dX10_fits_23 rfl rfl ?_
      refine z_getR (pc := 24) dX10_fits_24 f_RX10_30 (by assumption) rfl ?_
      refine z_iload_n (pc := 27) dX10_fits_27 rfl rfl ?_
      refine z_aload_n (pc := 28) dX10_fits_28 rfl rfl ?_
      refine z_getR (pc := 29) dX10_fits_29 f_RX10_11 (by assumption) rfl ?_
      refine z_bipush (pc := 32) (v := nI 43) dX10_fits_32 (by decide) ?_
      refine z_iload_n (pc := 34) dX10_fits_34 rfl rfl ?_
      first | refine z_iaddN (pc := 35) (by with_reducible rfl) (by with_reducible rfl) dX10_fits_35 ?_ | refine z_iadd (pc := 35) dX10_fits_35 ?_
      refine z_ialoadv (pc := 36) dX10_fits_36 (by assumption) (by with_reducible rfl) (by omega) (by decide) (by first | assumption | exact hW _ (by omega) | exact hWu _ | rfl) ?_
      refine z_iastore (pc := 37) dX10_fits_37 (by assumption) (by with_reducible rfl) (by omega) (by decide) ?_
      first | refine z_iincN (pc := 38) (c := 1) dX10_fits_38 rfl (by with_reducible rfl) (by decide) (by decide) rfl ?_ | refine z_iinc (pc := 38) dX10_fits_38 rfl rfl (by decide) rfl ?_
      try dsimp only [zst1, zst2, zk]
      refine z_goto (pc := 41) (tgt := 2) dX10_fits_41 (by decide) ?_
      refine ih (k + 1) _ (by omega) (fun j h1 => ?_) (zf2_t hf zf2_u)
      by_cases e : j = k
      · rw [e]
        exact ⟨by rw [zup_n _ _ (by omega)]; exact zup_s _ _ _ _, zup_s _ _ _ _⟩
      · rw [zup_n _ _ (by omega), zup_n _ _ (by omega), zup_n _ _ (by omega), zup_n _ _ (by omega)]
        exact hth j (by omega)
theorem zP_lt {n : Nat → Nat} {w l k j : Nat} (h : zP n w k j = true) (hl : l < k) : zP n w l j = false := by
  have h1 := of_decide_eq_true h
  exact decide_eq_false (by omega)
set_option maxHeartbeats 2000000 in
set_option maxRecDepth 20000 in
theorem l2_X10_fits {lay : List zL} {Q : Value → zI → zJ → Prop} {n : Nat → Nat} {d w : Nat} {I0 : zI} {J0 : zJ} (hM : kM lay) (hW0 : vW I0 n) (hB : bS n) (hT : bT n) (hw : w ≤ 2) : ∀ (f k : Nat) (m : Nat → Nat) (I : zI) (J : zJ), k + f = zlines (n 0) (n 1) w → zthen I m → (∀ j, j < 9 → (∀ l, l < k → zP n w l j = false) → m (34 + j) = n (34 + j) ∧ m (43 + j) = n (43 + j)) → zf2 I0 I → zw2 J0 J → (∀ m' I' J' y, zfits n w f k m = some m' → zthen I' m' → zf2 I0 I' → zw2 J0 J' → Z lay MX10_fits (d + 5) 99 [.ref 79, .int (nI w), .int y, .null] [] I' J' Q) → (∀ I' J', zfits n w f k m = none → zf2 I0 I' → zw2 J0 J' → Q (.int (-6)) I' J') → Z lay MX10_fits (d + 5) 46 [.ref 79, .int (nI w), .int (nI k), .null] [] I J Q := by
  intro f
  induction f with
  | zero =>
    intro k m I J hm hth hag hf hj hy hn
    have hW : vW I n := vW_to hW0 (fun y => hf 80 y (by omega) (by omega))
    obtain ⟨mo, m80, m81, m82, m83, m84, m85, m86, m87, m88, m89, m90, m91, m92, m93, m94, m95, m96⟩ := id hM
    have hwv := hW
    obtain ⟨b1, b2, b3, b4, b5, b6, b7, b8⟩ := id hB
    have hz := zlines_le (w := w) b2 b4
    refine z_iload_n (pc := 46) dX10_fits_46 rfl rfl ?_
    refine z_aload_n (pc := 47) dX10_fits_47 rfl rfl ?_
    refine z_iload_n (pc := 48) dX10_fits_48 rfl rfl ?_
    refine z_callV (pc := 49) (c_X10_linesOf hM hW hB hw) dX10_fits_49 l_RX10_78 m_MX10_linesOf n_MX10_linesOf e_MX10_linesOf rfl (by omega) (by assumption) rfl rfl (Nat.le_of_ble_eq_true rfl) ?_
    rintro _ _ _ (⟨rfl, rfl, rfl⟩)
    try dsimp only [zov, Option.toList, List.cons_append, List.nil_append]
    first | refine z_icmp_geN (pc := 52) (tgt := 99) (by with_reducible rfl) (by with_reducible rfl) dX10_fits_52 (by decide) (by omega) (by omega) (fun hb52 => ?_) (fun hb52 => absurd hb52 (by omega)) | refine z_icmp_ge (pc := 52) (tgt := 99) dX10_fits_52 (by decide) (fun hb52 => ?_) (fun hb52 => absurd hb52 (by omega))
    · skip
      exact hy m I J _ rfl hth hf hj
  | succ f ih =>
    intro k m I J hm hth hag hf hj hy hn
    have hW : vW I n := vW_to hW0 (fun y => hf 80 y (by omega) (by omega))
    obtain ⟨mo, m80, m81, m82, m83, m84, m85, m86, m87, m88, m89, m90, m91, m92, m93, m94, m95, m96⟩ := id hM
    have hwv := hW
    obtain ⟨b1, b2, b3, b4, b5, b6, b7, b8⟩ := id hB
    have hz := zlines_le (w := w) b2 b4
    have hcell : zsm n m w k = zsm n n w k := zsm_cell (fun j h1 h2 => hag j h1 (fun l hl => zP_lt h2 hl))
    refine z_iload_n (pc := 46) dX10_fits_46 rfl rfl ?_
    refine z_aload_n (pc := 47) dX10_fits_47 rfl rfl ?_
    refine z_iload_n (pc := 48) dX10_fits_48 rfl rfl ?_
    refine z_callV (pc := 49) (c_X10_linesOf hM hW hB hw) dX10_fits_49 l_RX10_78 m_MX10_linesOf n_MX10_linesOf e_MX10_linesOf rfl (by omega) (by assumption) rfl rfl (Nat.le_of_ble_eq_true rfl) ?_
    rintro _ _ _ (⟨rfl, rfl, rfl⟩)
    try dsimp only [zov, Option.toList, List.cons_append, List.nil_append]
    first | refine z_icmp_geN (pc := 52) (tgt := 99) (by with_reducible rfl) (by with_reducible rfl) dX10_fits_52 (by decide) (by omega) (by omega) (fun hb52 => absurd hb52 (by omega)) (fun hb52 => ?_) | refine z_icmp_ge (pc := 52) (tgt := 99) dX10_fits_52 (by decide) (fun hb52 => absurd hb52 (by omega)) (fun hb52 => ?_)
    · skip
      refine z_aload_n (pc := 55) dX10_fits_55 rfl rfl ?_
      refine z_iload_n (pc := 56) dX10_fits_56 rfl rfl ?_
      refine z_iload_n (pc := 57) dX10_fits_57 rfl rfl ?_
      refine z_callV (pc := 58) (c_X10_sums hM hW hB hT hw (by omega)) dX10_fits_58 l_RX10_167 m_MX10_sums n_MX10_sums e_MX10_sums rfl (by omega) (by assumption) rfl rfl (Nat.le_of_ble_eq_true rfl) ?_
      rintro _ _ _ ⟨⟨rfl, q, hq, hqb, hab⟩ | ⟨rfl, hq⟩, rfl, hj1⟩
      · rw [← hcell] at hq; have hqb2 := hqb.1
        try dsimp only [zov, Option.toList, List.cons_append, List.nil_append]
        first | refine z_if_eqN (pc := 61) (tgt := 90) (by with_reducible rfl) dX10_fits_61 (by decide) (by omega) (fun hb61 => absurd hb61 (by decide)) (fun hb61 => ?_) | refine z_if_eq (pc := 61) (tgt := 90) dX10_fits_61 (by decide) (fun hb61 => absurd hb61 (by decide)) (fun hb61 => ?_)
        · skip
          refine z_aload_n (pc := 64) dX10_fits_64 rfl rfl ?_
          refine z_getJv (pc := 65) dX10_fits_65 f_RX10_147 (by assumption) rfl (by first | assumption | exact hab.1 | exact hab.2 | rfl) ?_
          refine z_lconst (pc := 68) (v := lN 0) dX10_fits_68 rfl ?_
          first | refine z_lc_leN (pc := 69) (tgt := 93) (by with_reducible rfl) (by with_reducible rfl) dX10_fits_69 rfl dX10_fits_70 (by decide) (by omega) (by omega) (fun hb69 => ?_) (fun hb69 => ?_) | refine z_lc_le (pc := 69) (tgt := 93) dX10_fits_69 rfl dX10_fits_70 (by decide) (fun hb69 => ?_) (fun hb69 => ?_)
          · skip
            first | refine z_iincN (pc := 93) (c := 1) dX10_fits_93 rfl (by with_reducible rfl) (by decide) (by decide) rfl ?_ | refine z_iinc (pc := 93) dX10_fits_93 rfl rfl (by decide) rfl ?_
            try dsimp only [zst1, zst2, zk]
            refine z_goto (pc := 96) (tgt := 46) dX10_fits_96 (by decide) ?_
            first
            | exact ih (k + 1) m _ _ (by omega) hth (fun j h1 h2 => hag j h1 (fun l hl => h2 l (by omega))) hf (zw2_t hj hj1) (fun m' I' J' y h1 => hy m' I' J' y (by rw [zfits_0 hq (by omega)]; exact h1)) (fun I' J' h1 => hn I' J' (by rw [zfits_0 hq (by omega)]; exact h1))
            | (have hcc := zfl_c _ _ _ (fun k hk => (zl_mem hk (by omega)).1) hm1
               exact ih (k + 1) m1 _ _ (by omega) hth1 (fun j h1 h2 => by have e := hcc j h1 (Or.inl (h2 k (by omega))); rw [e.1, e.2]; exact hag j h1 (fun l hl => h2 l (by omega))) (zf2_t hf hf1) (zw2_t (zw2_t hj hj1) hj2) (fun m' I' J' y h1 => hy m' I' J' y (by rw [zfits_s hq (by omega) hm1]; exact h1)) (fun I' J' h1 => hn I' J' (by rw [zfits_s hq (by omega) hm1]; exact h1)))
            | fail
          · skip
            refine z_aload_n (pc := 73) dX10_fits_73 rfl rfl ?_
            refine z_iload_n (pc := 74) dX10_fits_74 rfl rfl ?_
            refine z_iload_n (pc := 75) dX10_fits_75 rfl rfl ?_
            refine z_aload_n (pc := 76) dX10_fits_76 rfl rfl ?_
            refine z_getJv (pc := 77) dX10_fits_77 f_RX10_147 (by assumption) rfl (by first | assumption | exact hab.1 | exact hab.2 | rfl) ?_
            refine z_aload_n (pc := 80) dX10_fits_80 rfl rfl ?_
            refine z_getJv (pc := 81) dX10_fits_81 f_RX10_151 (by assumption) rfl (by first | assumption | exact hab.1 | exact hab.2 | rfl) ?_
            refine z_callV (pc := 84) (c_X10_fitsLine (m := m) hM hW hB hT hw (by omega) hqb (by omega) hth (fun j h1 h2 => hag j h1 (fun l hl => zP_lt h2 hl))) dX10_fits_84 l_RX10_170 m_MX10_fitsLine n_MX10_fitsLine e_MX10_fitsLine rfl (by omega) (by assumption) rfl rfl (Nat.le_of_ble_eq_true rfl) ?_
            rintro _ _ _ ⟨⟨rfl, m1, hm1, hth1⟩ | ⟨rfl, hm1⟩, hf1, hj2⟩
            · skip
              try dsimp only [zov, Option.toList, List.cons_append, List.nil_append]
              first | refine z_if_neN (pc := 87) (tgt := 93) (by with_reducible rfl) dX10_fits_87 (by decide) (by omega) (fun hb87 => ?_) (fun hb87 => absurd hb87 (by decide)) | refine z_if_ne (pc := 87) (tgt := 93) dX10_fits_87 (by decide) (fun hb87 => ?_) (fun hb87 => absurd hb87 (by decide))
              · skip
                first | refine z_iincN (pc := 93) (c := 1) dX10_fits_93 rfl (by with_reducible rfl) (by decide) (by decide) rfl ?_ | refine z_iinc (pc := 93) dX10_fits_93 rfl rfl (by decide) rfl ?_
                try dsimp only [zst1, zst2, zk]
                refine z_goto (pc := 96) (tgt := 46) dX10_fits_96 (by decide) ?_
                first
                | exact ih (k + 1) m _ _ (by omega) hth (fun j h1 h2 => hag j h1 (fun l hl => h2 l (by omega))) hf (zw2_t hj hj1) (fun m' I' J' y h1 => hy m' I' J' y (by rw [zfits_0 hq (by omega)]; exact h1)) (fun I' J' h1 => hn I' J' (by rw [zfits_0 hq (by omega)]; exact h1))
                | (have hcc := zfl_c _ _ _ (fun k hk => (zl_mem hk (by omega)).1) hm1
                   exact ih (k + 1) m1 _ _ (by omega) hth1 (fun j h1 h2 => by have e := hcc j h1 (Or.inl (h2 k (by omega))); rw [e.1, e.2]; exact hag j h1 (fun l hl => h2 l (by omega))) (zf2_t hf hf1) (zw2_t (zw2_t hj hj1) hj2) (fun m' I' J' y h1 => hy m' I' J' y (by rw [zfits_s hq (by omega) hm1]; exact h1)) (fun I' J' h1 => hn I' J' (by rw [zfits_s hq (by omega) hm1]; exact h1)))
                | fail
            · skip
              try dsimp only [zov, Option.toList, List.cons_append, List.nil_append]
              first | refine z_if_neN (pc := 87) (tgt := 93) (by with_reducible rfl) dX10_fits_87 (by decide) (by omega) (fun hb87 => absurd hb87 (by decide)) (fun hb87 => ?_) | refine z_if_ne (pc := 87) (tgt := 93) dX10_fits_87 (by decide) (fun hb87 => absurd hb87 (by decide)) (fun hb87 => ?_)
              · skip
                refine z_bipush (pc := 90) (v := -6) dX10_fits_90 (by decide) ?_
                refine z_iret (pc := 92) dX10_fits_92 rfl ?_
                first
                | exact hn _ _ (zfits_n hq) hf (zw2_t hj hj1)
                | exact hn _ _ (zfits_f hq (by omega) hm1) (zf2_t hf hf1) (zw2_t (zw2_t hj hj1) hj2)
                | fail
      · rw [← hcell] at hq
        try dsimp only [zov, Option.toList, List.cons_append, List.nil_append]
        first | refine z_if_eqN (pc := 61) (tgt := 90) (by with_reducible rfl) dX10_fits_61 (by decide) (by omega) (fun hb61 => ?_) (fun hb61 => absurd hb61 (by decide)) | refine z_if_eq (pc := 61) (tgt := 90) dX10_fits_61 (by decide) (fun hb61 => ?_) (fun hb61 => absurd hb61 (by decide))
        · skip
          refine z_bipush (pc := 90) (v := -6) dX10_fits_90 (by decide) ?_
          refine z_iret (pc := 92) dX10_fits_92 rfl ?_
          first
          | exact hn _ _ (zfits_n hq) hf (zw2_t hj hj1)
          | exact hn _ _ (zfits_f hq (by omega) hm1) (zf2_t hf hf1) (zw2_t (zw2_t hj hj1) hj2)
          | fail
set_option maxHeartbeats 2000000 in
set_option maxRecDepth 20000 in
theorem l3_X10_fits {lay : List zL} {Q : Value → zI → zJ → Prop} {n m : Nat → Nat} {d w : Nat} {I0 : zI} {J : zJ} (hM : kM lay) (hT : bT n) (hTm : bT m) : ∀ (f k c : Nat) (I : zI), k + f = 9 → c + f ≤ 9 → zthen I m → (∀ j, j < 73 → (j < 34 ∨ 52 ≤ j) → I 80 j = nI (n j)) → (∀ j, k ≤ j → j < 9 → I 80 (34 + j) = nI (n (34 + j)) ∧ I 80 (43 + j) = nI (n (43 + j))) → (∀ j, j < k → I 80 (34 + j) = nI (m (34 + j)) ∧ I 80 (43 + j) = nI (m (43 + j))) → (∀ x y, x ≠ 80 → I x y = I0 x y) → (∀ I', (∀ j, j < 73 → (j < 34 ∨ 52 ≤ j) → I' 80 j = nI (n j)) → (∀ j, j < 9 → I' 80 (34 + j) = nI (m (34 + j)) ∧ I' 80 (43 + j) = nI (m (43 + j))) → (∀ x y, x ≠ 80 → I' x y = I0 x y) → Q (.int (nI (c + zdfk m n f k))) I' J) → Z lay MX10_fits d 103 [.ref 79, .int (nI w), .int (nI c), .int (nI k)] [] I J Q := by
  intro f
  induction f with
  | zero =>
    intro k c I hm hc9 hth h1 h2 h3 hf hq
    obtain rfl : k = 9 := (by omega)
    refine z_iload_n (pc := 103) dX10_fits_103 rfl rfl ?_
    refine z_bipush (pc := 104) (v := nI 9) dX10_fits_104 (by decide) ?_
    first | refine z_icmp_geN (pc := 106) (tgt := 189) (by with_reducible rfl) (by with_reducible rfl) dX10_fits_106 (by decide) (by omega) (by omega) (fun hb106 => ?_) (fun hb106 => absurd hb106 (by omega)) | refine z_icmp_ge (pc := 106) (tgt := 189) dX10_fits_106 (by decide) (fun hb106 => ?_) (fun hb106 => absurd hb106 (by omega))
    · skip
      refine z_iload_n (pc := 189) dX10_fits_189 rfl rfl ?_
      refine z_iret (pc := 190) dX10_fits_190 rfl ?_
      exact hq I h1 h3 hf
  | succ f ih =>
    intro k c I hm hc9 hth h1 h2 h3 hf hq
    have t1 := hT k (by omega)
    have t2 := hTm k (by omega)
    have e1 := (h2 k (by omega) (by omega)).1
    have e2 := (h2 k (by omega) (by omega)).2
    have e3 := (hth k (by omega)).1
    have e4 := (hth k (by omega)).2
    have e5 : ∀ v, zup I 80 (34 + k) v 86 k = nI (m (43 + k)) := fun v => by rw [zup_n _ _ (by omega)]; exact e4
    obtain ⟨mo, m80, m81, m82, m83, m84, m85, m86, m87, m88, m89, m90, m91, m92, m93, m94, m95, m96⟩ := id hM
    refine z_iload_n (pc := 103) dX10_fits_103 rfl rfl ?_
    refine z_bipush (pc := 104) (v := nI 9) dX10_fits_104 (by decide) ?_
    first | refine z_icmp_geN (pc := 106) (tgt := 189) (by with_reducible rfl) (by with_reducible rfl) dX10_fits_106 (by decide) (by omega) (by omega) (fun hb106 => absurd hb106 (by omega)) (fun hb106 => ?_) | refine z_icmp_ge (pc := 106) (tgt := 189) dX10_fits_106 (by decide) (fun hb106 => absurd hb106 (by omega)) (fun hb106 => ?_)
    · skip
      refine z_iload_n (pc := 109) dX10_fits_109 rfl rfl ?_
      refine z_aload_n (pc := 110) dX10_fits_110 rfl rfl ?_
      refine z_getR (pc := 111) dX10_fits_111 f_RX10_27 (by assumption) rfl ?_
      refine z_iload_n (pc := 114) dX10_fits_114 rfl rfl ?_
      refine z_ialoadv (pc := 115) dX10_fits_115 (by assumption) (by with_reducible rfl) (by omega) (by decide) (by first | assumption | exact e5 _ | rfl) ?_
      refine z_aload_n (pc := 116) dX10_fits_116 rfl rfl ?_
      refine z_getR (pc := 117) dX10_fits_117 f_RX10_11 (by assumption) rfl ?_
      refine z_bipush (pc := 120) (v := nI 34) dX10_fits_120 (by decide) ?_
      refine z_iload_n (pc := 122) dX10_fits_122 rfl rfl ?_
      first | refine z_iaddN (pc := 123) (by with_reducible rfl) (by with_reducible rfl) dX10_fits_123 ?_ | refine z_iadd (pc := 123) dX10_fits_123 ?_
      refine z_ialoadv (pc := 124) dX10_fits_124 (by assumption) (by with_reducible rfl) (by omega) (by decide) (by first | assumption | exact e5 _ | rfl) ?_
      first | refine z_icmp_neN (pc := 125) (tgt := 146) (by with_reducible rfl) (by with_reducible rfl) dX10_fits_125 (by decide) (by omega) (by omega) (fun hb125 => ?_) (fun hb125 => ?_) | refine z_icmp_ne (pc := 125) (tgt := 146) dX10_fits_125 (by decide) (fun hb125 => ?_) (fun hb125 => ?_)
      · skip
        refine z_iconst (pc := 146) (v := nI 1) dX10_fits_146 (by decide) ?_
        refine z_goto (pc := 147) (tgt := 151) dX10_fits_147 (by decide) ?_
        first | refine z_iaddN (pc := 151) (by with_reducible rfl) (by with_reducible rfl) dX10_fits_151 ?_ | refine z_iadd (pc := 151) dX10_fits_151 ?_
        refine z_istore_n (pc := 152) dX10_fits_152 rfl (by decide) rfl ?_
        try dsimp only [zst1, zst2, zk]
        refine z_aload_n (pc := 153) dX10_fits_153 rfl rfl ?_
        refine z_getR (pc := 154) dX10_fits_154 f_RX10_11 (by assumption) rfl ?_
        refine z_bipush (pc := 157) (v := nI 34) dX10_fits_157 (by decide) ?_
        refine z_iload_n (pc := 159) dX10_fits_159 rfl rfl ?_
        first | refine z_iaddN (pc := 160) (by with_reducible rfl) (by with_reducible rfl) dX10_fits_160 ?_ | refine z_iadd (pc := 160) dX10_fits_160 ?_
        refine z_aload_n (pc := 161) dX10_fits_161 rfl rfl ?_
        refine z_getR (pc := 162) dX10_fits_162 f_RX10_27 (by assumption) rfl ?_
        refine z_iload_n (pc := 165) dX10_fits_165 rfl rfl ?_
        refine z_ialoadv (pc := 166) dX10_fits_166 (by assumption) (by with_reducible rfl) (by omega) (by decide) (by first | assumption | exact e5 _ | rfl) ?_
        refine z_iastore (pc := 167) dX10_fits_167 (by assumption) (by with_reducible rfl) (by omega) (by decide) ?_
        refine z_aload_n (pc := 168) dX10_fits_168 rfl rfl ?_
        refine z_getR (pc := 169) dX10_fits_169 f_RX10_11 (by assumption) rfl ?_
        refine z_bipush (pc := 172) (v := nI 43) dX10_fits_172 (by decide) ?_
        refine z_iload_n (pc := 174) dX10_fits_174 rfl rfl ?_
        first | refine z_iaddN (pc := 175) (by with_reducible rfl) (by with_reducible rfl) dX10_fits_175 ?_ | refine z_iadd (pc := 175) dX10_fits_175 ?_
        refine z_aload_n (pc := 176) dX10_fits_176 rfl rfl ?_
        refine z_getR (pc := 177) dX10_fits_177 f_RX10_30 (by assumption) rfl ?_
        refine z_iload_n (pc := 180) dX10_fits_180 rfl rfl ?_
        refine z_ialoadv (pc := 181) dX10_fits_181 (by assumption) (by with_reducible rfl) (by omega) (by decide) (by first | assumption | exact e5 _ | rfl) ?_
        refine z_iastore (pc := 182) dX10_fits_182 (by assumption) (by with_reducible rfl) (by omega) (by decide) ?_
        first | refine z_iincN (pc := 183) (c := 1) dX10_fits_183 rfl (by with_reducible rfl) (by decide) (by decide) rfl ?_ | refine z_iinc (pc := 183) dX10_fits_183 rfl rfl (by decide) rfl ?_
        try dsimp only [zst1, zst2, zk]
        refine z_goto (pc := 186) (tgt := 103) dX10_fits_186 (by decide) ?_
        refine ih (k + 1) _ _ (by omega) (by omega) (fun j hj => ?_) (fun j hj hj2 => ?_) (fun j hj hj2 => ?_) (fun j hj => ?_) (fun x y hx => ?_) (fun I' g1 g2 g3 => ?_)
        · rw [zup_n _ _ (by omega), zup_n _ _ (by omega), zup_n _ _ (by omega), zup_n _ _ (by omega)]; exact hth j hj
        · rw [zup_n _ _ (by omega), zup_n _ _ (by omega)]; exact h1 j hj hj2
        · rw [zup_n _ _ (by omega), zup_n _ _ (by omega), zup_n _ _ (by omega), zup_n _ _ (by omega)]; exact h2 j (by omega) hj2
        · by_cases e : j = k
          · rw [e]; exact ⟨by rw [zup_n _ _ (by omega)]; exact zup_s _ _ _ _, zup_s _ _ _ _⟩
          · rw [zup_n _ _ (by omega), zup_n _ _ (by omega), zup_n _ _ (by omega), zup_n _ _ (by omega)]; exact h3 j (by omega)
        · rw [zup_n _ _ (by omega), zup_n _ _ (by omega)]; exact hf x y hx
        · have e9 := hq I' g1 g2 g3
          unfold zdfk at e9
          rw [← Nat.add_assoc] at e9
          first
          | (rw [if_neg (show ¬ (m (34 + k) = n (34 + k) ∧ m (43 + k) = n (43 + k)) by omega)] at e9; exact e9)
          | (rw [if_pos (show m (34 + k) = n (34 + k) ∧ m (43 + k) = n (43 + k) by omega)] at e9; exact e9)
      · skip
        refine z_aload_n (pc := 128) dX10_fits_128 rfl rfl ?_
        refine z_getR (pc := 129) dX10_fits_129 f_RX10_30 (by assumption) rfl ?_
        refine z_iload_n (pc := 132) dX10_fits_132 rfl rfl ?_
        refine z_ialoadv (pc := 133) dX10_fits_133 (by assumption) (by with_reducible rfl) (by omega) (by decide) (by first | assumption | exact e5 _ | rfl) ?_
        refine z_aload_n (pc := 134) dX10_fits_134 rfl rfl ?_
        refine z_getR (pc := 135) dX10_fits_135 f_RX10_11 (by assumption) rfl ?_
        refine z_bipush (pc := 138) (v := nI 43) dX10_fits_138 (by decide) ?_
        refine z_iload_n (pc := 140) dX10_fits_140 rfl rfl ?_
        first | refine z_iaddN (pc := 141) (by with_reducible rfl) (by with_reducible rfl) dX10_fits_141 ?_ | refine z_iadd (pc := 141) dX10_fits_141 ?_
        refine z_ialoadv (pc := 142) dX10_fits_142 (by assumption) (by with_reducible rfl) (by omega) (by decide) (by first | assumption | exact e5 _ | rfl) ?_
        first | refine z_icmp_eqN (pc := 143) (tgt := 150) (by with_reducible rfl) (by with_reducible rfl) dX10_fits_143 (by decide) (by omega) (by omega) (fun hb143 => ?_) (fun hb143 => ?_) | refine z_icmp_eq (pc := 143) (tgt := 150) dX10_fits_143 (by decide) (fun hb143 => ?_) (fun hb143 => ?_)
        · skip
          refine z_iconst (pc := 150) (v := nI 0) dX10_fits_150 (by decide) ?_
          first | refine z_iaddN (pc := 151) (by with_reducible rfl) (by with_reducible rfl) dX10_fits_151 ?_ | refine z_iadd (pc := 151) dX10_fits_151 ?_
          refine z_istore_n (pc := 152) dX10_fits_152 rfl (by decide) rfl ?_
          try dsimp only [zst1, zst2, zk]
          refine z_aload_n (pc := 153) dX10_fits_153 rfl rfl ?_
          refine z_getR (pc := 154) dX10_fits_154 f_RX10_11 (by assumption) rfl ?_
          refine z_bipush (pc := 157) (v := nI 34) dX10_fits_157 (by decide) ?_
          refine z_iload_n (pc := 159) dX10_fits_159 rfl rfl ?_
          first | refine z_iaddN (pc := 160) (by with_reducible rfl) (by with_reducible rfl) dX10_fits_160 ?_ | refine z_iadd (pc := 160) dX10_fits_160 ?_
          refine z_aload_n (pc := 161) dX10_fits_161 rfl rfl ?_
          refine z_getR (pc := 162) dX10_fits_162 f_RX10_27 (by assumption) rfl ?_
          refine z_iload_n (pc := 165) dX10_fits_165 rfl rfl ?_
          refine z_ialoadv (pc := 166) dX10_fits_166 (by assumption) (by with_reducible rfl) (by omega) (by decide) (by first | assumption | exact e5 _ | rfl) ?_
          refine z_iastore (pc := 167) dX10_fits_167 (by assumption) (by with_reducible rfl) (by omega) (by decide) ?_
          refine z_aload_n (pc := 168) dX10_fits_168 rfl rfl ?_
          refine z_getR (pc := 169) dX10_fits_169 f_RX10_11 (by assumption) rfl ?_
          refine z_bipush (pc := 172) (v := nI 43) dX10_fits_172 (by decide) ?_
          refine z_iload_n (pc := 174) dX10_fits_174 rfl rfl ?_
          first | refine z_iaddN (pc := 175) (by with_reducible rfl) (by with_reducible rfl) dX10_fits_175 ?_ | refine z_iadd (pc := 175) dX10_fits_175 ?_
          refine z_aload_n (pc := 176) dX10_fits_176 rfl rfl ?_
          refine z_getR (pc := 177) dX10_fits_177 f_RX10_30 (by assumption) rfl ?_
          refine z_iload_n (pc := 180) dX10_fits_180 rfl rfl ?_
          refine z_ialoadv (pc := 181) dX10_fits_181 (by assumption) (by with_reducible rfl) (by omega) (by decide) (by first | assumption | exact e5 _ | rfl) ?_
          refine z_iastore (pc := 182) dX10_fits_182 (by assumption) (by with_reducible rfl) (by omega) (by decide) ?_
          first | refine z_iincN (pc := 183) (c := 1) dX10_fits_183 rfl (by with_reducible rfl) (by decide) (by decide) rfl ?_ | refine z_iinc (pc := 183) dX10_fits_183 rfl rfl (by decide) rfl ?_
          try dsimp only [zst1, zst2, zk]
          refine z_goto (pc := 186) (tgt := 103) dX10_fits_186 (by decide) ?_
          refine ih (k + 1) _ _ (by omega) (by omega) (fun j hj => ?_) (fun j hj hj2 => ?_) (fun j hj hj2 => ?_) (fun j hj => ?_) (fun x y hx => ?_) (fun I' g1 g2 g3 => ?_)
          · rw [zup_n _ _ (by omega), zup_n _ _ (by omega), zup_n _ _ (by omega), zup_n _ _ (by omega)]; exact hth j hj
          · rw [zup_n _ _ (by omega), zup_n _ _ (by omega)]; exact h1 j hj hj2
          · rw [zup_n _ _ (by omega), zup_n _ _ (by omega), zup_n _ _ (by omega), zup_n _ _ (by omega)]; exact h2 j (by omega) hj2
          · by_cases e : j = k
            · rw [e]; exact ⟨by rw [zup_n _ _ (by omega)]; exact zup_s _ _ _ _, zup_s _ _ _ _⟩
            · rw [zup_n _ _ (by omega), zup_n _ _ (by omega), zup_n _ _ (by omega), zup_n _ _ (by omega)]; exact h3 j (by omega)
          · rw [zup_n _ _ (by omega), zup_n _ _ (by omega)]; exact hf x y hx
          · have e9 := hq I' g1 g2 g3
            unfold zdfk at e9
            rw [← Nat.add_assoc] at e9
            first
            | (rw [if_neg (show ¬ (m (34 + k) = n (34 + k) ∧ m (43 + k) = n (43 + k)) by omega)] at e9; exact e9)
            | (rw [if_pos (show m (34 + k) = n (34 + k) ∧ m (43 + k) = n (43 + k) by omega)] at e9; exact e9)
        · skip
          refine z_iconst (pc := 146) (v := nI 1) dX10_fits_146 (by decide) ?_
          refine z_goto (pc := 147) (tgt := 151) dX10_fits_147 (by decide) ?_
          first | refine z_iaddN (pc := 151) (by with_reducible rfl) (by with_reducible rfl) dX10_fits_151 ?_ | refine z_iadd (pc := 151) dX10_fits_151 ?_
          refine z_istore_n (pc := 152) dX10_fits_152 rfl (by decide) rfl ?_
          try dsimp only [zst1, zst2, zk]
          refine z_aload_n (pc := 153) dX10_fits_153 rfl rfl ?_
          refine z_getR (pc := 154) dX10_fits_154 f_RX10_11 (by assumption) rfl ?_
          refine z_bipush (pc := 157) (v := nI 34) dX10_fits_157 (by decide) ?_
          refine z_iload_n (pc := 159) dX10_fits_159 rfl rfl ?_
          first | refine z_iaddN (pc := 160) (by with_reducible rfl) (by with_reducible rfl) dX10_fits_160 ?_ | refine z_iadd (pc := 160) dX10_fits_160 ?_
          refine z_aload_n (pc := 161) dX10_fits_161 rfl rfl ?_
          refine z_getR (pc := 162) dX10_fits_162 f_RX10_27 (by assumption) rfl ?_
          refine z_iload_n (pc := 165) dX10_fits_165 rfl rfl ?_
          refine z_ialoadv (pc := 166) dX10_fits_166 (by assumption) (by with_reducible rfl) (by omega) (by decide) (by first | assumption | exact e5 _ | rfl) ?_
          refine z_iastore (pc := 167) dX10_fits_167 (by assumption) (by with_reducible rfl) (by omega) (by decide) ?_
          refine z_aload_n (pc := 168) dX10_fits_168 rfl rfl ?_
          refine z_getR (pc := 169) dX10_fits_169 f_RX10_11 (by assumption) rfl ?_
          refine z_bipush (pc := 172) (v := nI 43) dX10_fits_172 (by decide) ?_
          refine z_iload_n (pc := 174) dX10_fits_174 rfl rfl ?_
          first | refine z_iaddN (pc := 175) (by with_reducible rfl) (by with_reducible rfl) dX10_fits_175 ?_ | refine z_iadd (pc := 175) dX10_fits_175 ?_
          refine z_aload_n (pc := 176) dX10_fits_176 rfl rfl ?_
          refine z_getR (pc := 177) dX10_fits_177 f_RX10_30 (by assumption) rfl ?_
          refine z_iload_n (pc := 180) dX10_fits_180 rfl rfl ?_
          refine z_ialoadv (pc := 181) dX10_fits_181 (by assumption) (by with_reducible rfl) (by omega) (by decide) (by first | assumption | exact e5 _ | rfl) ?_
          refine z_iastore (pc := 182) dX10_fits_182 (by assumption) (by with_reducible rfl) (by omega) (by decide) ?_
          first | refine z_iincN (pc := 183) (c := 1) dX10_fits_183 rfl (by with_reducible rfl) (by decide) (by decide) rfl ?_ | refine z_iinc (pc := 183) dX10_fits_183 rfl rfl (by decide) rfl ?_
          try dsimp only [zst1, zst2, zk]
          refine z_goto (pc := 186) (tgt := 103) dX10_fits_186 (by decide) ?_
          refine ih (k + 1) _ _ (by omega) (by omega) (fun j hj => ?_) (fun j hj hj2 => ?_) (fun j hj hj2 => ?_) (fun j hj => ?_) (fun x y hx => ?_) (fun I' g1 g2 g3 => ?_)
          · rw [zup_n _ _ (by omega), zup_n _ _ (by omega), zup_n _ _ (by omega), zup_n _ _ (by omega)]; exact hth j hj
          · rw [zup_n _ _ (by omega), zup_n _ _ (by omega)]; exact h1 j hj hj2
          · rw [zup_n _ _ (by omega), zup_n _ _ (by omega), zup_n _ _ (by omega), zup_n _ _ (by omega)]; exact h2 j (by omega) hj2
          · by_cases e : j = k
            · rw [e]; exact ⟨by rw [zup_n _ _ (by omega)]; exact zup_s _ _ _ _, zup_s _ _ _ _⟩
            · rw [zup_n _ _ (by omega), zup_n _ _ (by omega), zup_n _ _ (by omega), zup_n _ _ (by omega)]; exact h3 j (by omega)
          · rw [zup_n _ _ (by omega), zup_n _ _ (by omega)]; exact hf x y hx
          · have e9 := hq I' g1 g2 g3
            unfold zdfk at e9
            rw [← Nat.add_assoc] at e9
            first
            | (rw [if_neg (show ¬ (m (34 + k) = n (34 + k) ∧ m (43 + k) = n (43 + k)) by omega)] at e9; exact e9)
            | (rw [if_pos (show m (34 + k) = n (34 + k) ∧ m (43 + k) = n (43 + k) by omega)] at e9; exact e9)
def zf3 (I I' : zI) : Prop := ∀ x y, x ≠ 80 → x ≠ 85 → x ≠ 86 → I' x y = I x y
set_option maxHeartbeats 2000000 in
set_option maxRecDepth 20000 in
theorem c_X10_fits {lay : List zL} {I : zI} {J : zJ} {n : Nat → Nat} (hM : kM lay) (hW : vW I n) (hB : bS n) (hT : bT n) (hG : bG n) {w : Nat} (hw : w ≤ 2) : zMet lay MX10_fits 5 [.ref 79, .int (nI w)] I J (fun r I' J' => ((∃ m', r = .int (nI (zdf m' n (zl (n 0) (n 1) 0))) ∧ zdf m' n (zl (n 0) (n 1) 0) ≤ 9 ∧ zfit n w n = some m' ∧ vW I' m' ∧ bT m' ∧ bG m') ∨ (r = .int (-6) ∧ zfit n w n = none ∧ vW I' n)) ∧ zf3 I I' ∧ zw2 J J') := by
  refine zMet_of (t := MX10_fits) (ls := [.ref 79, .int (nI w), .null, .null]) (by decide +kernel) (Nat.le_of_ble_eq_true rfl) rfl ?_
  have hz := zlines_le3 hB (w := w)
  refine z_iconst (pc := 0) (v := nI 0) dX10_fits_0 (by decide) ?_
  refine z_istore_n (pc := 1) dX10_fits_1 rfl (by decide) rfl ?_
  try dsimp only [zst1, zst2, zk]
  refine l1_X10_fits hM hW (fun I1 hth1 hf1 => ?_) 9 0 I rfl (fun j hj => absurd hj (by omega)) (zf2_r I)
  refine z_iconst (pc := 44) (v := nI 0) dX10_fits_44 (by decide) ?_
  refine z_istore_n (pc := 45) dX10_fits_45 rfl (by decide) rfl ?_
  try dsimp only [zst1, zst2, zk]
  refine l2_X10_fits (d := 0) (I0 := I) (J0 := J) hM hW hB hT hw (zlines (n 0) (n 1) w) 0 n I1 J (by omega) hth1 (fun j _ _ => ⟨rfl, rfl⟩) hf1 (zw2_r J) (fun m' I' J' y h1 h2 h3 h4 => ?_) (fun I' J' h1 h2 h3 => ⟨Or.inr ⟨rfl, h1, vW_to hW (fun y => h2 80 y (by omega) (by omega))⟩, fun x y q1 q2 q3 => h2 x y q2 q3, h3⟩)
  have hbb := zfits_b _ _ _ _ hT hG h1
  have ho := zfit_p hB h1
  have hW' : vW I' n := vW_to hW (fun y => h3 80 y (by omega) (by omega))
  have hdk := zdfk_l ho.2 9 0 rfl
  have h9 : ∀ f k, zdfk m' n f k ≤ f := (by
    intro f
    induction f with
    | zero => intro k; exact Nat.le_refl 0
    | succ f ih => intro k; have := ih (k + 1); unfold zdfk; split <;> omega)
  refine z_iconst (pc := 99) (v := nI 0) dX10_fits_99 (by decide) ?_
  refine z_istore_n (pc := 100) dX10_fits_100 rfl (by decide) rfl ?_
  try dsimp only [zst1, zst2, zk]
  refine z_iconst (pc := 101) (v := nI 0) dX10_fits_101 (by decide) ?_
  refine z_istore_n (pc := 102) dX10_fits_102 rfl (by decide) rfl ?_
  try dsimp only [zst1, zst2, zk]
  refine l3_X10_fits (I0 := I') hM hT hbb.1 9 0 0 I' rfl (by omega) h2 (fun j hj _ => hW' j hj) (fun j _ hj => ⟨hW' _ (by omega), hW' _ (by omega)⟩) (fun j hj => absurd hj (by omega)) (fun _ _ _ => rfl) (fun I2 g1 g2 g3 => ⟨Or.inl ⟨m', ?_, ?_, h1, fun k hk => ?_, hbb⟩, fun x y q1 q2 q3 => (g3 x y q1).trans (h3 x y q2 q3), h4⟩)
  · rw [hdk, Nat.zero_add]
  · rw [← hdk]; exact h9 9 0
  · by_cases q : k < 34 ∨ 52 ≤ k
    · rw [ho.1 k q]; exact g1 k hk q
    · by_cases q2 : k < 43
      · have := (g2 (k - 34) (by omega)).1
        rw [show 34 + (k - 34) = k by omega] at this; exact this
      · have := (g2 (k - 43) (by omega)).2
        rw [show 43 + (k - 43) = k by omega] at this; exact this
