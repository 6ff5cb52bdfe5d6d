/-! ===== the model: whole numbers ===== -/
theorem zdn_d (q : Nat × Nat) : q.1 / q.2 = zdn q := rfl
set_option maxHeartbeats 2000000 in
set_option maxRecDepth 20000 in
theorem c_X10_down {lay : List zL} {I : zI} {J : zJ} (hM : kM lay) {q : Nat × Nat} (hq : zbd q) (ha : zab J q) : zMet lay MX10_down 0 [.ref 79] I J (fun r I' J' => r = .int (nI (zdn q)) ∧ I = I' ∧ J = J') := by
  refine zMet_of (t := MX10_down) (ls := [.ref 79]) (by decide +kernel) (Nat.le_of_ble_eq_true rfl) rfl ?_
  obtain ⟨mo, m80, m81, m82, m83, m84, m85, m86, m87, m88, m89, m90, m91, m92, m93, m94, m95, m96⟩ := id hM
  obtain ⟨a1, a2⟩ := ha
  obtain ⟨q1, q2, q3⟩ := hq
  refine z_aload_n (pc := 0) dX10_down_0 rfl rfl ?_
  refine z_getJv (pc := 1) dX10_down_1 f_RX10_147 (by assumption) rfl (by first | assumption | rfl) ?_
  refine z_aload_n (pc := 4) dX10_down_4 rfl rfl ?_
  refine z_getJv (pc := 5) dX10_down_5 f_RX10_151 (by assumption) rfl (by first | assumption | rfl) ?_
  refine z_ldivN (pc := 8) (by with_reducible rfl) (by with_reducible rfl) dX10_down_8 (by omega) (by omega) (by omega) ?_
  first | refine z_l2iN (pc := 9) (by with_reducible rfl) dX10_down_9 ?_ | refine z_l2i (pc := 9) dX10_down_9 rfl ?_
  refine z_iret (pc := 10) dX10_down_10 rfl ?_
  exact ⟨rfl, rfl, rfl⟩
set_option maxHeartbeats 2000000 in
set_option maxRecDepth 20000 in
theorem c_X10_up {lay : List zL} {I : zI} {J : zJ} (hM : kM lay) {q : Nat × Nat} (hq : zbd q) (ha : zab J q) : zMet lay MX10_up 0 [.ref 79] I J (fun r I' J' => r = .int (nI (zhi q)) ∧ I = I' ∧ J = J') := by
  refine zMet_of (t := MX10_up) (ls := [.ref 79]) (by decide +kernel) (Nat.le_of_ble_eq_true rfl) rfl ?_
  obtain ⟨mo, m80, m81, m82, m83, m84, m85, m86, m87, m88, m89, m90, m91, m92, m93, m94, m95, m96⟩ := id hM
  obtain ⟨a1, a2⟩ := ha
  obtain ⟨q1, q2, q3⟩ := hq
  refine z_aload_n (pc := 0) dX10_up_0 rfl rfl ?_
  refine z_getJv (pc := 1) dX10_up_1 f_RX10_147 (by assumption) rfl (by first | assumption | rfl) ?_
  refine z_aload_n (pc := 4) dX10_up_4 rfl rfl ?_
  refine z_getJv (pc := 5) dX10_up_5 f_RX10_151 (by assumption) rfl (by first | assumption | rfl) ?_
  first | refine z_laddN (pc := 8) (by with_reducible rfl) (by with_reducible rfl) dX10_up_8 ?_ | refine z_ladd (pc := 8) dX10_up_8 ?_
  refine z_lconst (pc := 9) (v := lN 1) dX10_up_9 rfl ?_
  first | refine z_lsubN (pc := 10) (by with_reducible rfl) (by with_reducible rfl) dX10_up_10 (by omega) ?_ | refine z_lsub (pc := 10) dX10_up_10 ?_
  refine z_aload_n (pc := 11) dX10_up_11 rfl rfl ?_
  refine z_getJv (pc := 12) dX10_up_12 f_RX10_151 (by assumption) rfl (by first | assumption | rfl) ?_
  refine z_ldivN (pc := 15) (by with_reducible rfl) (by with_reducible rfl) dX10_up_15 (by omega) (by omega) (by omega) ?_
  first | refine z_l2iN (pc := 16) (by with_reducible rfl) dX10_up_16 ?_ | refine z_l2i (pc := 16) dX10_up_16 rfl ?_
  refine z_iret (pc := 17) dX10_up_17 rfl ?_
  exact ⟨by rw [zhi_up q2], rfl, rfl⟩
theorem zpl_w {n : Nat → Nat} (hB : bS n) {w l : Nat} {q : Nat × Nat} (hw : w < 2) (hl : l < zlines (n 0) (n 1) w) (h : zsm n n w l = some q) : zpl n n (3 * w + l) = q := by
  have hz := zlines_le3 hB (w := w)
  unfold zpl
  rcases (show w = 0 ∨ w = 1 by omega) with rfl | rfl
  · rw [if_pos (by omega), show 3 * 0 + l = l by omega, h]; rfl
  · rw [if_neg (by omega), if_pos (by omega), show 3 * 1 + l - 3 = l by omega, h]; rfl
theorem zpl_6 {n : Nat → Nat} {q : Nat × Nat} (h : zttl n n (n 0) 0 (0, 1) = some q) : zpl n n 6 = q := by
  unfold zpl
  rw [if_neg (by omega), if_neg (by omega), h]; rfl
theorem zttl_no {n : Nat → Nat} : ∀ (f s i : Nat) (q : Nat × Nat), s ≤ i → i < s + f → zsm n n 0 i = none → zttl n n f s q = none
  | 0, _, _, _, _, _, _ => by omega
  | f + 1, s, i, q, h1, h2, h => by
    unfold zttl
    by_cases e : i = s
    · rw [← e, h]
    · cases zsm n n 0 s with
      | none => rfl
      | some p =>
        dsimp only
        split
        · exact zttl_no f (s + 1) i _ (by omega) (by omega) h
        · rfl
theorem zcok_iff {n : Nat → Nat} : ∀ (f j : Nat), zcok n n f j = true ↔ ∀ i, j ≤ i → i < j + f → zsm n n 1 i ≠ none
  | 0, j => ⟨fun _ i h1 h2 => absurd h1 (by omega), fun _ => rfl⟩
  | f + 1, j => by
    unfold zcok
    rw [Bool.and_eq_true, zcok_iff f (j + 1)]
    constructor
    · rintro ⟨h1, h2⟩ i h3 h4
      by_cases e : i = j
      · rw [e]; intro h; rw [h] at h1; cases h1
      · exact h2 i (by omega) (by omega)
    · intro h
      refine ⟨?_, fun i h1 h2 => h i (by omega) (by omega)⟩
      have := h j (by omega) (by omega)
      cases e : zsm n n 1 j with
      | none => exact absurd e this
      | some p => rfl
theorem zfnd_no {n : Nat → Nat} {w l : Nat} (hw : w < 2) (hl : l < zlines (n 0) (n 1) w) (h : zsm n n w l = none) : ¬ zfnd n n := by
  rintro ⟨h1, h2⟩
  rcases (show w = 0 ∨ w = 1 by omega) with rfl | rfl
  · exact h1 (zttl_no (n 0) 0 l _ (by omega) (by unfold zlines at hl; simp at hl; omega) h)
  · exact (zcok_iff (n 1) 0).mp h2 l (by omega) (by unfold zlines at hl; simp at hl; omega) h
def zlimk (I : zI) (n : Nat → Nat) (w k : Nat) : Prop := ∀ w' l, w' < 2 → l < zlines (n 0) (n 1) w' → (w' < w ∨ (w' = w ∧ l < k)) → zsm n n w' l ≠ none ∧ I 88 (3 * w' + l) = nI (zdn (zpl n n (3 * w' + l))) ∧ I 89 (3 * w' + l) = nI (zhi (zpl n n (3 * w' + l)))
def zlim (I : zI) (n : Nat → Nat) : Prop := (∀ w l, w < 2 → l < zlines (n 0) (n 1) w → I 88 (3 * w + l) = nI (zdn (zpl n n (3 * w + l))) ∧ I 89 (3 * w + l) = nI (zhi (zpl n n (3 * w + l)))) ∧ I 79 16 = nI (zdn (zpl n n 6)) ∧ I 79 17 = nI (zhi (zpl n n 6))
def zfL (I I' : zI) : Prop := ∀ x y, x ≠ 88 → x ≠ 89 → (x = 79 → y ≠ 16 ∧ y ≠ 17) → I' x y = I x y
theorem zlimk_s {I : zI} {n : Nat → Nat} {w k : Nat} {q : Nat × Nat} (hB : bS n) (h : zlimk I n w k) (hw : w < 2) (hk : k < zlines (n 0) (n 1) w) (hq : zsm n n w k = some q) : zlimk (zup (zup I 88 (3 * w + k) (nI (zdn q))) 89 (3 * w + k) (nI (zhi q))) n w (k + 1) := by
  intro w' l h1 h2 h3
  have hz := zlines_le3 hB (w := w)
  have hz' := zlines_le3 hB (w := w')
  by_cases e : w' = w ∧ l = k
  · obtain ⟨rfl, rfl⟩ := e
    rw [zpl_w hB h1 h2 hq]
    exact ⟨(fun h => nomatch (hq.symm.trans h)), (zup_n _ _ (by omega)).trans (zup_s _ _ _ _), zup_s _ _ _ _⟩
  · have := h w' l h1 h2 (by omega)
    rw [zup_n _ _ (by omega), zup_n _ _ (by omega), zup_n _ _ (by omega), zup_n _ _ (by omega)]
    exact this
theorem zfL_u {I : zI} {j k : Nat} {a b : Int32} : zfL I (zup (zup I 88 j a) 89 k b) := fun x y h1 h2 _ => by
  rw [zup_n _ _ (by omega), zup_n _ _ (by omega)]
theorem zfL_t {I I1 I2 : zI} (h : zfL I I1) (h2 : zfL I1 I2) : zfL I I2 := fun x y q1 q2 q3 => (h2 x y q1 q2 q3).trans (h x y q1 q2 q3)
theorem zfL_W {I I' : zI} {n : Nat → Nat} (h : zfL I I') (hW : vW I n) : vW I' n := vW_to hW (fun y => h 80 y (by omega) (by omega) (by omega))
set_option maxHeartbeats 2000000 in
set_option maxRecDepth 20000 in
theorem l1_X10_hasLimits {lay : List zL} {Q : Value → zI → zJ → Prop} {n : Nat → Nat} {d : Nat} {I0 : zI} {J0 : zJ} (hM : kM lay) (hW0 : vW I0 n) (hB : bS n) (hT : bT n) (K : ∀ I J y, zlimk I n 2 0 → zfL I0 I → zw2 J0 J → Z lay MX10_hasLimits (d + 5) 69 [.ref 79, .int (nI 2), .int y, .null, .null, .null] [] I J Q) (hn : ∀ I J, ¬ zfnd n n → zfL I0 I → zw2 J0 J → Q (.int (nI 0)) I J) : ∀ (m w k : Nat) (I : zI) (J : zJ), 5 * (2 - w) + (4 - k) < m → w < 2 → k ≤ zlines (n 0) (n 1) w → zlimk I n w k → zfL I0 I → zw2 J0 J → Z lay MX10_hasLimits (d + 5) 9 [.ref 79, .int (nI w), .int (nI k), .null, .null, .null] [] I J Q := by
  intro m
  induction m with
  | zero => intro w k I J h; exact absurd h (by omega)
  | succ m ih =>
    intro w k I J hm hw hk hl hf hj
    have hW := zfL_W hf hW0
    obtain ⟨mo, m80, m81, m82, m83, m84, m85, m86, m87, m88, m89, m90, m91, m92, m93, m94, m95, m96⟩ := id hM
    have hwv := hW
    obtain ⟨b1, b2, b3, b4, b5, b6, b7, b8⟩ := id hB
    have hz := zlines_le (w := w) b2 b4
    refine z_iload_n (pc := 9) dX10_hasLimits_9 rfl rfl ?_
    refine z_aload_n (pc := 10) dX10_hasLimits_10 rfl rfl ?_
    refine z_iload_n (pc := 11) dX10_hasLimits_11 rfl rfl ?_
    refine z_callV (pc := 12) (c_X10_linesOf hM hW hB (by omega)) dX10_hasLimits_12 l_RX10_78 m_MX10_linesOf n_MX10_linesOf e_MX10_linesOf rfl (by omega) (by assumption) rfl rfl (Nat.le_of_ble_eq_true rfl) ?_
    rintro _ _ _ (⟨rfl, rfl, rfl⟩)
    try dsimp only [zov, Option.toList, List.cons_append, List.nil_append]
    first | refine z_icmp_geN (pc := 15) (tgt := 63) (by with_reducible rfl) (by with_reducible rfl) dX10_hasLimits_15 (by decide) (by omega) (by omega) (fun hb15 => ?_) (fun hb15 => ?_) | refine z_icmp_ge (pc := 15) (tgt := 63) dX10_hasLimits_15 (by decide) (fun hb15 => ?_) (fun hb15 => ?_)
    · skip
      first | refine z_iincN (pc := 63) (c := 1) dX10_hasLimits_63 rfl (by with_reducible rfl) (by decide) (by decide) rfl ?_ | refine z_iinc (pc := 63) dX10_hasLimits_63 rfl rfl (by decide) rfl ?_
      try dsimp only [zst1, zst2, zk]
      refine z_goto (pc := 66) (tgt := 2) dX10_hasLimits_66 (by decide) ?_
      refine z_iload_n (pc := 2) dX10_hasLimits_2 rfl rfl ?_
      refine z_iconst (pc := 3) (v := nI 2) dX10_hasLimits_3 (by decide) ?_
      first | refine z_icmp_geN (pc := 4) (tgt := 69) (by with_reducible rfl) (by with_reducible rfl) dX10_hasLimits_4 (by decide) (by omega) (by omega) (fun hb4 => ?_) (fun hb4 => ?_) | refine z_icmp_ge (pc := 4) (tgt := 69) dX10_hasLimits_4 (by decide) (fun hb4 => ?_) (fun hb4 => ?_)
      · skip
        obtain rfl : w = 1 := (by omega)
        exact K I J _ (fun w' l h1 h2 h3 => hl w' l h1 h2 (by rcases (show w' = 0 ∨ w' = 1 by omega) with rfl | rfl <;> omega)) hf hj
      · skip
        refine z_iconst (pc := 7) (v := nI 0) dX10_hasLimits_7 (by decide) ?_
        refine z_istore_n (pc := 8) dX10_hasLimits_8 rfl (by decide) rfl ?_
        try dsimp only [zst1, zst2, zk]
        first
        | exact ih w (k + 1) _ _ (by omega) hw (by omega) (zlimk_s hB hl hw (by omega) hq) (zfL_t hf zfL_u) (zw2_t hj hj1)
        | exact ih (w + 1) 0 I J (by omega) (by omega) (by omega) (fun w' l h1 h2 h3 => hl w' l h1 h2 (by rcases (show w' = w ∨ w' < w by omega) with rfl | h <;> omega)) hf hj
        | fail
    · skip
      refine z_aload_n (pc := 18) dX10_hasLimits_18 rfl rfl ?_
      refine z_iload_n (pc := 19) dX10_hasLimits_19 rfl rfl ?_
      refine z_iload_n (pc := 20) dX10_hasLimits_20 rfl rfl ?_
      refine z_callV (pc := 21) (c_X10_sums hM hW hB hT (by omega) (by omega)) dX10_hasLimits_21 l_RX10_167 m_MX10_sums n_MX10_sums e_MX10_sums rfl (by omega) (by assumption) rfl rfl (Nat.le_of_ble_eq_true rfl) ?_
      rintro _ _ _ ⟨⟨rfl, q, hq, hqb, hab⟩ | ⟨rfl, hq⟩, rfl, hj1⟩
      · skip
        try dsimp only [zov, Option.toList, List.cons_append, List.nil_append]
        first | refine z_if_neN (pc := 24) (tgt := 29) (by with_reducible rfl) dX10_hasLimits_24 (by decide) (by omega) (fun hb24 => ?_) (fun hb24 => absurd hb24 (by decide)) | refine z_if_ne (pc := 24) (tgt := 29) dX10_hasLimits_24 (by decide) (fun hb24 => ?_) (fun hb24 => absurd hb24 (by decide))
        · skip
          refine z_aload_n (pc := 29) dX10_hasLimits_29 rfl rfl ?_
          refine z_getR (pc := 30) dX10_hasLimits_30 f_RX10_36 (by assumption) rfl ?_
          refine z_iconst (pc := 33) (v := nI 3) dX10_hasLimits_33 (by decide) ?_
          refine z_iload_n (pc := 34) dX10_hasLimits_34 rfl rfl ?_
          first | refine z_imulN (pc := 35) (by with_reducible rfl) (by with_reducible rfl) dX10_hasLimits_35 ?_ | refine z_imul (pc := 35) dX10_hasLimits_35 ?_
          refine z_iload_n (pc := 36) dX10_hasLimits_36 rfl rfl ?_
          first | refine z_iaddN (pc := 37) (by with_reducible rfl) (by with_reducible rfl) dX10_hasLimits_37 ?_ | refine z_iadd (pc := 37) dX10_hasLimits_37 ?_
          refine z_aload_n (pc := 38) dX10_hasLimits_38 rfl rfl ?_
          refine z_callV (pc := 39) (c_X10_down hM hqb hab) dX10_hasLimits_39 l_RX10_229 m_MX10_down n_MX10_down e_MX10_down rfl (by omega) (by assumption) rfl rfl (Nat.le_of_ble_eq_true rfl) ?_
          rintro _ _ _ (⟨rfl, rfl, rfl⟩)
          try dsimp only [zov, Option.toList, List.cons_append, List.nil_append]
          refine z_iastore (pc := 42) dX10_hasLimits_42 (by assumption) (by with_reducible rfl) (by omega) (by decide) ?_
          refine z_aload_n (pc := 43) dX10_hasLimits_43 rfl rfl ?_
          refine z_getR (pc := 44) dX10_hasLimits_44 f_RX10_39 (by assumption) rfl ?_
          refine z_iconst (pc := 47) (v := nI 3) dX10_hasLimits_47 (by decide) ?_
          refine z_iload_n (pc := 48) dX10_hasLimits_48 rfl rfl ?_
          first | refine z_imulN (pc := 49) (by with_reducible rfl) (by with_reducible rfl) dX10_hasLimits_49 ?_ | refine z_imul (pc := 49) dX10_hasLimits_49 ?_
          refine z_iload_n (pc := 50) dX10_hasLimits_50 rfl rfl ?_
          first | refine z_iaddN (pc := 51) (by with_reducible rfl) (by with_reducible rfl) dX10_hasLimits_51 ?_ | refine z_iadd (pc := 51) dX10_hasLimits_51 ?_
          refine z_aload_n (pc := 52) dX10_hasLimits_52 rfl rfl ?_
          refine z_callV (pc := 53) (c_X10_up hM hqb hab) dX10_hasLimits_53 l_RX10_232 m_MX10_up n_MX10_up e_MX10_up rfl (by omega) (by assumption) rfl rfl (Nat.le_of_ble_eq_true rfl) ?_
          rintro _ _ _ (⟨rfl, rfl, rfl⟩)
          try dsimp only [zov, Option.toList, List.cons_append, List.nil_append]
          refine z_iastore (pc := 56) dX10_hasLimits_56 (by assumption) (by with_reducible rfl) (by omega) (by decide) ?_
          first | refine z_iincN (pc := 57) (c := 1) dX10_hasLimits_57 rfl (by with_reducible rfl) (by decide) (by decide) rfl ?_ | refine z_iinc (pc := 57) dX10_hasLimits_57 rfl rfl (by decide) rfl ?_
          try dsimp only [zst1, zst2, zk]
          refine z_goto (pc := 60) (tgt := 9) dX10_hasLimits_60 (by decide) ?_
          first
          | exact ih w (k + 1) _ _ (by omega) hw (by omega) (zlimk_s hB hl hw (by omega) hq) (zfL_t hf zfL_u) (zw2_t hj hj1)
          | exact ih (w + 1) 0 I J (by omega) (by omega) (by omega) (fun w' l h1 h2 h3 => hl w' l h1 h2 (by rcases (show w' = w ∨ w' < w by omega) with rfl | h <;> omega)) hf hj
          | fail
      · skip
        try dsimp only [zov, Option.toList, List.cons_append, List.nil_append]
        first | refine z_if_neN (pc := 24) (tgt := 29) (by with_reducible rfl) dX10_hasLimits_24 (by decide) (by omega) (fun hb24 => absurd hb24 (by decide)) (fun hb24 => ?_) | refine z_if_ne (pc := 24) (tgt := 29) dX10_hasLimits_24 (by decide) (fun hb24 => absurd hb24 (by decide)) (fun hb24 => ?_)
        · skip
          refine z_iconst (pc := 27) (v := nI 0) dX10_hasLimits_27 (by decide) ?_
          refine z_zret (pc := 28) dX10_hasLimits_28 rfl (by first | decide | assumption) ?_
          exact hn _ _ (zfnd_no hw (by omega) hq) hf (zw2_t hj hj1)
theorem zttl_s {n : Nat → Nat} {f i : Nat} {q p : Nat × Nat} (h : zsm n n 0 i = some p) (h2 : zok (zred (q.1 * p.2 + p.1 * q.2) (q.2 * p.2)) = true) : zttl n n (f + 1) i q = zttl n n f (i + 1) (zred (q.1 * p.2 + p.1 * q.2) (q.2 * p.2)) := by
  rw [zttl, h]
  exact if_pos h2
theorem zttl_f {n : Nat → Nat} {f i : Nat} {q p : Nat × Nat} (h : zsm n n 0 i = some p) (h2 : zok (zred (q.1 * p.2 + p.1 * q.2) (q.2 * p.2)) = false) : zttl n n (f + 1) i q = none := by
  rw [zttl, h]
  exact if_neg (by rw [h2]; decide)
set_option maxHeartbeats 2000000 in
set_option maxRecDepth 20000 in
theorem l2_X10_hasLimits {lay : List zL} {Q : Value → zI → zJ → Prop} {n : Nat → Nat} {d : Nat} {I : zI} {J0 : zJ} (hM : kM lay) (hW : vW I n) (hB : bS n) (hT : bT n) (hs : ∀ i, i < n 0 → zsm n n 0 i ≠ none) : ∀ (f i : Nat) (q : Nat × Nat) (J : zJ), i + f = n 0 → zbd q → (0 < i → zab J q) → zw2 J0 J → (∀ q2 J', zttl n n f i q = some q2 → zbd q2 → zab J' q2 → zw2 J0 J' → Z lay MX10_hasLimits (d + 5) 122 [.ref 79, .long (lN q2.1), .null, .long (lN q2.2), .null, .int (nI (n 0))] [] I J' Q) → (∀ J', zttl n n f i q = none → zw2 J0 J' → Q (.int (nI 0)) I J') → Z lay MX10_hasLimits (d + 5) 76 [.ref 79, .long (lN q.1), .null, .long (lN q.2), .null, .int (nI i)] [] I J Q := by
  obtain ⟨mo, m80, m81, m82, m83, m84, m85, m86, m87, m88, m89, m90, m91, m92, m93, m94, m95, m96⟩ := id hM
  have hwv := hW
  obtain ⟨b1, b2, b3, b4, b5, b6, b7, b8⟩ := id hB
  intro f
  induction f with
  | zero =>
    intro i q J hi hq ha hj hy hn
    obtain rfl : i = n 0 := (by omega)
    refine z_iload (pc := 76) dX10_hasLimits_76 rfl ?_
    refine z_aload_n (pc := 78) dX10_hasLimits_78 rfl rfl ?_
    refine z_getR (pc := 79) dX10_hasLimits_79 f_RX10_11 (by assumption) rfl ?_
    refine z_iconst (pc := 82) (v := nI 0) dX10_hasLimits_82 (by decide) ?_
    refine z_ialoadv (pc := 83) dX10_hasLimits_83 (by assumption) (by with_reducible rfl) (by omega) (by decide) (by first | assumption | exact hW _ (by omega) | rfl) ?_
    first | refine z_icmp_geN (pc := 84) (tgt := 122) (by with_reducible rfl) (by with_reducible rfl) dX10_hasLimits_84 (by decide) (by omega) (by omega) (fun hb84 => ?_) (fun hb84 => absurd hb84 (by omega)) | refine z_icmp_ge (pc := 84) (tgt := 122) dX10_hasLimits_84 (by decide) (fun hb84 => ?_) (fun hb84 => absurd hb84 (by omega))
    · skip
      exact hy q J rfl hq (ha (by omega)) hj
  | succ f ih =>
    intro i q J hi hq ha hj hy hn
    refine z_iload (pc := 76) dX10_hasLimits_76 rfl ?_
    refine z_aload_n (pc := 78) dX10_hasLimits_78 rfl rfl ?_
    refine z_getR (pc := 79) dX10_hasLimits_79 f_RX10_11 (by assumption) rfl ?_
    refine z_iconst (pc := 82) (v := nI 0) dX10_hasLimits_82 (by decide) ?_
    refine z_ialoadv (pc := 83) dX10_hasLimits_83 (by assumption) (by with_reducible rfl) (by omega) (by decide) (by first | assumption | exact hW _ (by omega) | exact zab_u.1 | exact zab_u.2 | rfl) ?_
    first | refine z_icmp_geN (pc := 84) (tgt := 122) (by with_reducible rfl) (by with_reducible rfl) dX10_hasLimits_84 (by decide) (by omega) (by omega) (fun hb84 => absurd hb84 (by omega)) (fun hb84 => ?_) | refine z_icmp_ge (pc := 84) (tgt := 122) dX10_hasLimits_84 (by decide) (fun hb84 => absurd hb84 (by omega)) (fun hb84 => ?_)
    · skip
      refine z_aload_n (pc := 87) dX10_hasLimits_87 rfl rfl ?_
      refine z_iconst (pc := 88) (v := nI 0) dX10_hasLimits_88 (by decide) ?_
      refine z_iload (pc := 89) dX10_hasLimits_89 rfl ?_
      refine z_callV (pc := 91) (c_X10_sums hM hW hB hT (by omega) (by omega)) dX10_hasLimits_91 l_RX10_167 m_MX10_sums n_MX10_sums e_MX10_sums rfl (by omega) (by assumption) rfl rfl (Nat.le_of_ble_eq_true rfl) ?_
      rintro _ _ _ ⟨⟨rfl, p, hp, hpb, hab⟩ | ⟨rfl, hp⟩, rfl, hj1⟩
      · have hlt := zadd_lt (u := q.1) (v := q.2) hpb hq.1 hq.2; have eT : zred (p.1 * q.2 + q.1 * p.2) (p.2 * q.2) = zred (q.1 * p.2 + p.1 * q.2) (q.2 * p.2) := (by rw [Nat.add_comm (p.1 * q.2), Nat.mul_comm p.2 q.2])
        try dsimp only [zov, Option.toList, List.cons_append, List.nil_append]
        refine z_pop (pc := 94) dX10_hasLimits_94 rfl ?_
        refine z_aload_n (pc := 95) dX10_hasLimits_95 rfl rfl ?_
        refine z_lload_n (pc := 96) dX10_hasLimits_96 rfl rfl ?_
        refine z_lload_n (pc := 97) dX10_hasLimits_97 rfl rfl ?_
        refine z_callV (pc := 98) (c_X10_adds hM hab (by omega) (by omega) hlt.2.2) dX10_hasLimits_98 l_RX10_164 m_MX10_adds n_MX10_adds e_MX10_adds rfl (by omega) (by assumption) rfl rfl (Nat.le_of_ble_eq_true rfl) ?_
        rintro _ _ _ ⟨⟨rfl, hok⟩ | ⟨rfl, hok⟩, rfl, rfl⟩
        · skip
          try dsimp only [zov, Option.toList, List.cons_append, List.nil_append]
          first | refine z_if_neN (pc := 101) (tgt := 106) (by with_reducible rfl) dX10_hasLimits_101 (by decide) (by omega) (fun hb101 => ?_) (fun hb101 => absurd hb101 (by decide)) | refine z_if_ne (pc := 101) (tgt := 106) dX10_hasLimits_101 (by decide) (fun hb101 => ?_) (fun hb101 => absurd hb101 (by decide))
          · skip
            refine z_aload_n (pc := 106) dX10_hasLimits_106 rfl rfl ?_
            refine z_getJv (pc := 107) dX10_hasLimits_107 f_RX10_147 (by assumption) rfl (by first | assumption | exact hW _ (by omega) | exact zab_u.1 | exact zab_u.2 | rfl) ?_
            refine z_lstore_n (pc := 110) dX10_hasLimits_110 rfl (by decide) rfl ?_
            try dsimp only [zst1, zst2, zk]
            refine z_aload_n (pc := 111) dX10_hasLimits_111 rfl rfl ?_
            refine z_getJv (pc := 112) dX10_hasLimits_112 f_RX10_151 (by assumption) rfl (by first | assumption | exact hW _ (by omega) | exact zab_u.1 | exact zab_u.2 | rfl) ?_
            refine z_lstore_n (pc := 115) dX10_hasLimits_115 rfl (by decide) rfl ?_
            try dsimp only [zst1, zst2, zk]
            first | refine z_iincN (pc := 116) (c := 1) dX10_hasLimits_116 rfl (by with_reducible rfl) (by decide) (by decide) rfl ?_ | refine z_iinc (pc := 116) dX10_hasLimits_116 rfl rfl (by decide) rfl ?_
            try dsimp only [zst1, zst2, zk]
            refine z_goto (pc := 119) (tgt := 76) dX10_hasLimits_119 (by decide) ?_
            exact ih (i + 1) _ _ (by omega) (zok_bd hlt.2.2 hok) (fun _ => zab_u) (zw2_t (zw2_t hj hj1) zw2_u) (fun q2 J' h1 => hy q2 J' (by rw [zttl_s hp (by rw [← eT]; exact hok), ← eT]; exact h1)) (fun J' h1 => hn J' (by rw [zttl_s hp (by rw [← eT]; exact hok), ← eT]; exact h1))
        · skip
          try dsimp only [zov, Option.toList, List.cons_append, List.nil_append]
          first | refine z_if_neN (pc := 101) (tgt := 106) (by with_reducible rfl) dX10_hasLimits_101 (by decide) (by omega) (fun hb101 => absurd hb101 (by decide)) (fun hb101 => ?_) | refine z_if_ne (pc := 101) (tgt := 106) dX10_hasLimits_101 (by decide) (fun hb101 => absurd hb101 (by decide)) (fun hb101 => ?_)
          · skip
            refine z_iconst (pc := 104) (v := nI 0) dX10_hasLimits_104 (by decide) ?_
            refine z_zret (pc := 105) dX10_hasLimits_105 rfl (by first | decide | assumption) ?_
            exact hn _ (zttl_f hp (by rw [← eT]; exact hok)) (zw2_t (zw2_t hj hj1) zw2_u)
      · exact absurd hp (hs i (by omega))
theorem zlim_of {I : zI} {n : Nat → Nat} {q : Nat × Nat} (h : zlimk I n 2 0) (hq : zttl n n (n 0) 0 (0, 1) = some q) : zlim (zup (zup I 79 16 (nI (zdn q))) 79 17 (nI (zhi q))) n := by
  refine ⟨fun w l h1 h2 => ?_, ?_, ?_⟩
  · have := h w l h1 h2 (by omega)
    rw [zup_n _ _ (by omega), zup_n _ _ (by omega), zup_n _ _ (by omega), zup_n _ _ (by omega)]
    exact this.2
  · rw [zpl_6 hq]; exact (zup_n _ _ (by decide)).trans (zup_s _ _ _ _)
  · rw [zpl_6 hq]; exact zup_s _ _ _ _
set_option maxHeartbeats 2000000 in
set_option maxRecDepth 20000 in
theorem c_X10_hasLimits {lay : List zL} {I : zI} {J : zJ} {n : Nat → Nat} (hM : kM lay) (hW : vW I n) (hB : bS n) (hT : bT n) : zMet lay MX10_hasLimits 5 [.ref 79] I J (fun r I' J' => ((r = .int (nI 1) ∧ zfnd n n ∧ zlim I' n) ∨ (r = .int (nI 0) ∧ ¬ zfnd n n)) ∧ zfL I I' ∧ zw2 J J') := by
  refine zMet_of (t := MX10_hasLimits) (ls := [.ref 79, .null, .null, .null, .null, .null]) (by decide +kernel) (Nat.le_of_ble_eq_true rfl) rfl ?_
  obtain ⟨mo, m80, m81, m82, m83, m84, m85, m86, m87, m88, m89, m90, m91, m92, m93, m94, m95, m96⟩ := id hM
  have hwv := hW
  obtain ⟨b1, b2, b3, b4, b5, b6, b7, b8⟩ := id hB
  refine z_iconst (pc := 0) (v := nI 0) dX10_hasLimits_0 (by decide) ?_
  refine z_istore_n (pc := 1) dX10_hasLimits_1 rfl (by decide) rfl ?_
  try dsimp only [zst1, zst2, zk]
  refine z_iload_n (pc := 2) dX10_hasLimits_2 rfl rfl ?_
  refine z_iconst (pc := 3) (v := nI 2) dX10_hasLimits_3 (by decide) ?_
  first | refine z_icmp_geN (pc := 4) (tgt := 69) (by with_reducible rfl) (by with_reducible rfl) dX10_hasLimits_4 (by decide) (by omega) (by omega) (fun hb4 => absurd hb4 (by omega)) (fun hb4 => ?_) | refine z_icmp_ge (pc := 4) (tgt := 69) dX10_hasLimits_4 (by decide) (fun hb4 => absurd hb4 (by omega)) (fun hb4 => ?_)
  · skip
    refine z_iconst (pc := 7) (v := nI 0) dX10_hasLimits_7 (by decide) ?_
    refine z_istore_n (pc := 8) dX10_hasLimits_8 rfl (by decide) rfl ?_
    try dsimp only [zst1, zst2, zk]
    refine l1_X10_hasLimits (d := 0) hM hW hB hT (fun I1 J1 y h1 h2 h3 => ?_) (fun I1 J1 h1 h2 h3 => ⟨Or.inr ⟨rfl, h1⟩, h2, h3⟩) 100 0 0 I J (by omega) (by omega) (by omega) (fun w' l _ _ h => absurd h (by omega)) (fun _ _ _ _ _ => rfl) (zw2_r J)
    have hW1 := zfL_W h2 hW
    have hz0 : zlines (n 0) (n 1) 0 = n 0 := rfl
    have hz1 : zlines (n 0) (n 1) 1 = n 1 := rfl
    refine z_lconst (pc := 69) (v := lN 0) dX10_hasLimits_69 rfl ?_
    refine z_lstore_n (pc := 70) dX10_hasLimits_70 rfl (by decide) rfl ?_
    try dsimp only [zst1, zst2, zk]
    refine z_lconst (pc := 71) (v := lN 1) dX10_hasLimits_71 rfl ?_
    refine z_lstore_n (pc := 72) dX10_hasLimits_72 rfl (by decide) rfl ?_
    try dsimp only [zst1, zst2, zk]
    refine z_iconst (pc := 73) (v := nI 0) dX10_hasLimits_73 (by decide) ?_
    refine z_istore (pc := 74) dX10_hasLimits_74 (by decide) rfl ?_
    try dsimp only [zst1, zst2, zk]
    refine l2_X10_hasLimits (d := 0) hM hW1 hB hT (fun i hi => (h1 0 i (by omega) (by omega) (by omega)).1) (n 0) 0 (0, 1) J1 (Nat.zero_add _) ⟨Nat.zero_le _, Nat.le_refl _, Nat.le_of_ble_eq_true rfl⟩ (fun h => absurd h (by omega)) h3 (fun q2 J2 g1 g2 g3 g4 => ?_) (fun J2 g1 g2 => ⟨Or.inr ⟨rfl, fun h => h.1 g1⟩, h2, g2⟩)
    refine z_aload_n (pc := 122) dX10_hasLimits_122 rfl rfl ?_
    refine z_aload_n (pc := 123) dX10_hasLimits_123 rfl rfl ?_
    refine z_callV (pc := 124) (c_X10_down hM g2 g3) dX10_hasLimits_124 l_RX10_229 m_MX10_down n_MX10_down e_MX10_down rfl (by omega) (by assumption) rfl rfl (Nat.le_of_ble_eq_true rfl) ?_
    rintro _ _ _ (⟨rfl, rfl, rfl⟩)
    try dsimp only [zov, Option.toList, List.cons_append, List.nil_append]
    refine z_putI (pc := 127) dX10_hasLimits_127 f_RX10_235 (by assumption) rfl ?_
    refine z_aload_n (pc := 130) dX10_hasLimits_130 rfl rfl ?_
    refine z_aload_n (pc := 131) dX10_hasLimits_131 rfl rfl ?_
    refine z_callV (pc := 132) (c_X10_up hM g2 g3) dX10_hasLimits_132 l_RX10_232 m_MX10_up n_MX10_up e_MX10_up rfl (by omega) (by assumption) rfl rfl (Nat.le_of_ble_eq_true rfl) ?_
    rintro _ _ _ (⟨rfl, rfl, rfl⟩)
    try dsimp only [zov, Option.toList, List.cons_append, List.nil_append]
    refine z_putI (pc := 135) dX10_hasLimits_135 f_RX10_238 (by assumption) rfl ?_
    refine z_iconst (pc := 138) (v := nI 1) dX10_hasLimits_138 (by decide) ?_
    refine z_zret (pc := 139) dX10_hasLimits_139 rfl (by first | decide | assumption) ?_
    exact ⟨Or.inl ⟨rfl, ⟨(fun h => nomatch (g1.symm.trans h)), (zcok_iff _ _).mpr (fun j _ hj => (h1 1 j (by omega) (by omega) (by omega)).1)⟩, zlim_of h1 g1⟩, fun x y r1 r2 r3 => by rw [zup_n _ _ (by omega), zup_n _ _ (by omega)]; exact h2 x y r1 r2 r3, g4⟩
set_option maxHeartbeats 2000000 in
set_option maxRecDepth 20000 in
theorem l_X10_togetherOf {lay : List zL} {Q : Value → zI → zJ → Prop} {n v : Nat → Nat} {d w l : Nat} {I : zI} {J : zJ} (hM : kM lay) (hW : vW I n) (hB : bS n) (hw : w ≤ 2) (hl : l < 2147483648) (hv : zagr I 89 n v 9) : ∀ (m k x : Nat), k + m = 9 → Q (.int (nI (x + zlsum (zif (zP n w l) v) (zl (n 0) (n 1) k)))) I J → Z lay MX10_togetherOf (d + 4) 5 [.ref 79, .int (nI w), .int (nI l), .int (nI x), .int (nI k)] [] I J Q := by
  obtain ⟨mo, m80, m81, m82, m83, m84, m85, m86, m87, m88, m89, m90, m91, m92, m93, m94, m95, m96⟩ := id hM
  intro m
  induction m with
  | zero =>
    intro k x hk hq
    obtain rfl : k = 9 := (by omega)
    refine z_iload (pc := 5) dX10_togetherOf_5 rfl ?_
    refine z_bipush (pc := 7) (v := nI 9) dX10_togetherOf_7 (by decide) ?_
    first | refine z_icmp_geN (pc := 9) (tgt := 43) (by with_reducible rfl) (by with_reducible rfl) dX10_togetherOf_9 (by decide) (by omega) (by omega) (fun hb9 => ?_) (fun hb9 => absurd hb9 (by omega)) | refine z_icmp_ge (pc := 9) (tgt := 43) dX10_togetherOf_9 (by decide) (fun hb9 => ?_) (fun hb9 => absurd hb9 (by omega))
    · skip
      refine z_iload_n (pc := 43) dX10_togetherOf_43 rfl rfl ?_
      refine z_iret (pc := 44) dX10_togetherOf_44 rfl ?_
      rw [zlsum_9] at hq; exact hq
  | succ m ih =>
    intro k x hk hq
    refine z_iload (pc := 5) dX10_togetherOf_5 rfl ?_
    refine z_bipush (pc := 7) (v := nI 9) dX10_togetherOf_7 (by decide) ?_
    first | refine z_icmp_geN (pc := 9) (tgt := 43) (by with_reducible rfl) (by with_reducible rfl) dX10_togetherOf_9 (by decide) (by omega) (by omega) (fun hb9 => absurd hb9 (by omega)) (fun hb9 => ?_) | refine z_icmp_ge (pc := 9) (tgt := 43) dX10_togetherOf_9 (by decide) (fun hb9 => absurd hb9 (by omega)) (fun hb9 => ?_)
    · skip
      refine z_iload_n (pc := 12) dX10_togetherOf_12 rfl rfl ?_
      refine z_aload_n (pc := 13) dX10_togetherOf_13 rfl rfl ?_
      refine z_iload (pc := 14) dX10_togetherOf_14 rfl ?_
      refine z_iload_n (pc := 16) dX10_togetherOf_16 rfl rfl ?_
      refine z_iload_n (pc := 17) dX10_togetherOf_17 rfl rfl ?_
      refine z_callV (pc := 18) (c_X10_isIn hM hW hB (by omega) hw hl) dX10_togetherOf_18 l_RX10_160 m_MX10_isIn n_MX10_isIn e_MX10_isIn rfl (by omega) (by assumption) rfl rfl (Nat.le_of_ble_eq_true rfl) ?_
      rintro _ _ _ ⟨⟨rfl, hc⟩ | ⟨rfl, hc⟩, rfl, rfl⟩
      · skip
        try dsimp only [zov, Option.toList, List.cons_append, List.nil_append]
        first | refine z_if_eqN (pc := 21) (tgt := 34) (by with_reducible rfl) dX10_togetherOf_21 (by decide) (by omega) (fun hb21 => absurd hb21 (by decide)) (fun hb21 => ?_) | refine z_if_eq (pc := 21) (tgt := 34) dX10_togetherOf_21 (by decide) (fun hb21 => absurd hb21 (by decide)) (fun hb21 => ?_)
        · skip
          refine z_aload_n (pc := 24) dX10_togetherOf_24 rfl rfl ?_
          refine z_getR (pc := 25) dX10_togetherOf_25 f_RX10_42 (by assumption) rfl ?_
          refine z_iload (pc := 28) dX10_togetherOf_28 rfl ?_
          refine z_ialoadv (pc := 30) dX10_togetherOf_30 (by assumption) (by with_reducible rfl) (by omega) (by decide) (by first | assumption | exact (hv k (by omega) hc.1.1 hc.1.2).1 | rfl) ?_
          refine z_goto (pc := 31) (tgt := 35) dX10_togetherOf_31 (by decide) ?_
          first | refine z_iaddN (pc := 35) (by with_reducible rfl) (by with_reducible rfl) dX10_togetherOf_35 ?_ | refine z_iadd (pc := 35) dX10_togetherOf_35 ?_
          refine z_istore_n (pc := 36) dX10_togetherOf_36 rfl (by decide) rfl ?_
          try dsimp only [zst1, zst2, zk]
          first | refine z_iincN (pc := 37) (c := 1) dX10_togetherOf_37 rfl (by with_reducible rfl) (by decide) (by decide) rfl ?_ | refine z_iinc (pc := 37) dX10_togetherOf_37 rfl rfl (by decide) rfl ?_
          try dsimp only [zst1, zst2, zk]
          refine z_goto (pc := 40) (tgt := 5) dX10_togetherOf_40 (by decide) ?_
          first
          | exact ih (k + 1) _ (by omega) (by rw [zlsum_y (by omega) hc.1, zif, if_pos hc.2, ← Nat.add_assoc] at hq; exact hq)
          | exact ih (k + 1) _ (by omega) (by
              by_cases e : k / 3 < n 0 ∧ k % 3 < n 1
              · rw [zlsum_y (by omega) e, zif, if_neg (fun z => hc ⟨e, z⟩), Nat.zero_add] at hq; exact hq
              · rw [zlsum_n (by omega) e] at hq; exact hq)
          | fail
      · skip
        try dsimp only [zov, Option.toList, List.cons_append, List.nil_append]
        first | refine z_if_eqN (pc := 21) (tgt := 34) (by with_reducible rfl) dX10_togetherOf_21 (by decide) (by omega) (fun hb21 => ?_) (fun hb21 => absurd hb21 (by decide)) | refine z_if_eq (pc := 21) (tgt := 34) dX10_togetherOf_21 (by decide) (fun hb21 => ?_) (fun hb21 => absurd hb21 (by decide))
        · skip
          refine z_iconst (pc := 34) (v := nI 0) dX10_togetherOf_34 (by decide) ?_
          first | refine z_iaddN (pc := 35) (by with_reducible rfl) (by with_reducible rfl) dX10_togetherOf_35 ?_ | refine z_iadd (pc := 35) dX10_togetherOf_35 ?_
          refine z_istore_n (pc := 36) dX10_togetherOf_36 rfl (by decide) rfl ?_
          try dsimp only [zst1, zst2, zk]
          first | refine z_iincN (pc := 37) (c := 1) dX10_togetherOf_37 rfl (by with_reducible rfl) (by decide) (by decide) rfl ?_ | refine z_iinc (pc := 37) dX10_togetherOf_37 rfl rfl (by decide) rfl ?_
          try dsimp only [zst1, zst2, zk]
          refine z_goto (pc := 40) (tgt := 5) dX10_togetherOf_40 (by decide) ?_
          first
          | exact ih (k + 1) _ (by omega) (by rw [zlsum_y (by omega) hc.1, zif, if_pos hc.2, ← Nat.add_assoc] at hq; exact hq)
          | exact ih (k + 1) _ (by omega) (by
              by_cases e : k / 3 < n 0 ∧ k % 3 < n 1
              · rw [zlsum_y (by omega) e, zif, if_neg (fun z => hc ⟨e, z⟩), Nat.zero_add] at hq; exact hq
              · rw [zlsum_n (by omega) e] at hq; exact hq)
          | fail
set_option maxHeartbeats 2000000 in
set_option maxRecDepth 20000 in
theorem c_X10_togetherOf {lay : List zL} {I : zI} {J : zJ} {n v : Nat → Nat} (hM : kM lay) (hW : vW I n) (hB : bS n) {w l : Nat} (hw : w ≤ 2) (hl : l < 2147483648) (hv : zagr I 89 n v 9) : zMet lay MX10_togetherOf 4 [.ref 79, .int (nI w), .int (nI l)] I J (fun r I' J' => r = .int (nI (ztg n v w l)) ∧ I = I' ∧ J = J') := by
  refine zMet_of (t := MX10_togetherOf) (ls := [.ref 79, .int (nI w), .int (nI l), .null, .null]) (by decide +kernel) (Nat.le_of_ble_eq_true rfl) rfl ?_
  refine z_iconst (pc := 0) (v := nI 0) dX10_togetherOf_0 (by decide) ?_
  refine z_istore_n (pc := 1) dX10_togetherOf_1 rfl (by decide) rfl ?_
  try dsimp only [zst1, zst2, zk]
  refine z_iconst (pc := 2) (v := nI 0) dX10_togetherOf_2 (by decide) ?_
  refine z_istore (pc := 3) dX10_togetherOf_3 (by decide) rfl ?_
  try dsimp only [zst1, zst2, zk]
  exact l_X10_togetherOf (d := 0) hM hW hB hw hl hv 9 0 0 rfl ⟨by rw [Nat.zero_add]; rfl, rfl, rfl⟩
set_option maxHeartbeats 2000000 in
set_option maxRecDepth 20000 in
theorem l1_X10_fitsWhole {lay : List zL} {Q : Value → zI → zJ → Prop} {n v : Nat → Nat} {d : Nat} {I : zI} {J : zJ} (hM : kM lay) (hW : vW I n) (hB : bS n) (hv : zagr I 89 n v 9) (K : Z lay MX10_fitsWhole (d + 5) 29 [.ref 79, .int (nI (zas n v)), .int (nI (n 0)), .null, .null] [] I J Q) : ∀ (m i x : Nat), i + m = n 0 → x + zmsum (fun i => zrs n v i) m i = zas n v → Z lay MX10_fitsWhole (d + 5) 4 [.ref 79, .int (nI x), .int (nI i), .null, .null] [] I J Q := by
  obtain ⟨mo, m80, m81, m82, m83, m84, m85, m86, m87, m88, m89, m90, m91, m92, m93, m94, m95, m96⟩ := id hM
  have hwv := hW
  obtain ⟨b1, b2, b3, b4, b5, b6, b7, b8⟩ := id hB
  intro m
  induction m with
  | zero =>
    intro i x hi hx
    obtain rfl : i = n 0 := (by omega)
    obtain rfl : x = zas n v := hx
    refine z_iload_n (pc := 4) dX10_fitsWhole_4 rfl rfl ?_
    refine z_aload_n (pc := 5) dX10_fitsWhole_5 rfl rfl ?_
    refine z_getR (pc := 6) dX10_fitsWhole_6 f_RX10_11 (by assumption) rfl ?_
    refine z_iconst (pc := 9) (v := nI 0) dX10_fitsWhole_9 (by decide) ?_
    refine z_ialoadv (pc := 10) dX10_fitsWhole_10 (by assumption) (by with_reducible rfl) (by omega) (by decide) (by first | assumption | exact hW _ (by omega) | rfl) ?_
    first | refine z_icmp_geN (pc := 11) (tgt := 29) (by with_reducible rfl) (by with_reducible rfl) dX10_fitsWhole_11 (by decide) (by omega) (by omega) (fun hb11 => ?_) (fun hb11 => absurd hb11 (by omega)) | refine z_icmp_ge (pc := 11) (tgt := 29) dX10_fitsWhole_11 (by decide) (fun hb11 => ?_) (fun hb11 => absurd hb11 (by omega))
    · skip
      exact K
  | succ m ih =>
    intro i x hi hx
    have hrs := ztg_rs (v := v) hB (show i < n 0 by omega)
    refine z_iload_n (pc := 4) dX10_fitsWhole_4 rfl rfl ?_
    refine z_aload_n (pc := 5) dX10_fitsWhole_5 rfl rfl ?_
    refine z_getR (pc := 6) dX10_fitsWhole_6 f_RX10_11 (by assumption) rfl ?_
    refine z_iconst (pc := 9) (v := nI 0) dX10_fitsWhole_9 (by decide) ?_
    refine z_ialoadv (pc := 10) dX10_fitsWhole_10 (by assumption) (by with_reducible rfl) (by omega) (by decide) (by first | assumption | exact hW _ (by omega) | rfl) ?_
    first | refine z_icmp_geN (pc := 11) (tgt := 29) (by with_reducible rfl) (by with_reducible rfl) dX10_fitsWhole_11 (by decide) (by omega) (by omega) (fun hb11 => absurd hb11 (by omega)) (fun hb11 => ?_) | refine z_icmp_ge (pc := 11) (tgt := 29) dX10_fitsWhole_11 (by decide) (fun hb11 => absurd hb11 (by omega)) (fun hb11 => ?_)
    · skip
      refine z_iload_n (pc := 14) dX10_fitsWhole_14 rfl rfl ?_
      refine z_aload_n (pc := 15) dX10_fitsWhole_15 rfl rfl ?_
      refine z_iconst (pc := 16) (v := nI 0) dX10_fitsWhole_16 (by decide) ?_
      refine z_iload_n (pc := 17) dX10_fitsWhole_17 rfl rfl ?_
      refine z_callV (pc := 18) (c_X10_togetherOf hM hW hB (by omega) (by omega) hv) dX10_fitsWhole_18 l_RX10_241 m_MX10_togetherOf n_MX10_togetherOf e_MX10_togetherOf rfl (by omega) (by assumption) rfl rfl (Nat.le_of_ble_eq_true rfl) ?_
      rintro _ _ _ (⟨rfl, rfl, rfl⟩)
      try dsimp only [zov, Option.toList, List.cons_append, List.nil_append]
      rw [hrs]
      first | refine z_iaddN (pc := 21) (by with_reducible rfl) (by with_reducible rfl) dX10_fitsWhole_21 ?_ | refine z_iadd (pc := 21) dX10_fitsWhole_21 ?_
      refine z_istore_n (pc := 22) dX10_fitsWhole_22 rfl (by decide) rfl ?_
      try dsimp only [zst1, zst2, zk]
      first | refine z_iincN (pc := 23) (c := 1) dX10_fitsWhole_23 rfl (by with_reducible rfl) (by decide) (by decide) rfl ?_ | refine z_iinc (pc := 23) dX10_fitsWhole_23 rfl rfl (by decide) rfl ?_
      try dsimp only [zst1, zst2, zk]
      refine z_goto (pc := 26) (tgt := 4) dX10_fitsWhole_26 (by decide) ?_
      exact ih (i + 1) _ (by omega) (by unfold zmsum at hx; rw [← Nat.add_assoc] at hx; exact hx)
def zwst (n v : Nat → Nat) (w l : Nat) : Prop := zst n n (3 * w + l) (ztg n v w l) = true
def zrest (n v : Nat → Nat) (w k : Nat) : Prop := ∀ w' l, w' < 2 → l < zlines (n 0) (n 1) w' → (w < w' ∨ (w = w' ∧ k ≤ l)) → zwst n v w' l
theorem zokw_rest {n v : Nat → Nat} (hB : bS n) : zokw n v = true ↔ zst n n 6 (zas n v) = true ∧ zrest n v 0 0 := by
  rw [zokw_iff]
  constructor
  · rintro ⟨h1, h2, h3⟩
    refine ⟨h3, fun w l hw hl _ => ?_⟩
    rcases (show w = 0 ∨ w = 1 by omega) with rfl | rfl
    · unfold zwst
      rw [ztg_rs hB hl, show 3 * 0 + l = l by omega]
      exact h1 l hl
    · unfold zwst
      rw [ztg_cs hB hl]
      exact h2 l hl
  · rintro ⟨h3, h⟩
    refine ⟨fun i hi => ?_, fun j hj => ?_, h3⟩
    · have := h 0 i (by omega) hi (by omega)
      unfold zwst at this
      rw [ztg_rs hB hi, show 3 * 0 + i = i by omega] at this
      exact this
    · have := h 1 j (by omega) hj (by omega)
      unfold zwst at this
      rw [ztg_cs hB hj] at this
      exact this
theorem ztg_le {I : zI} {n v : Nat → Nat} (hB : bS n) (h : zagr I 89 n v 9) {w l : Nat} (hw : w < 2) (hl : l < zlines (n 0) (n 1) w) : ztg n v w l ≤ 3000000 := by
  have b1 := hB.2.1
  have b2 := hB.2.2.2.1
  rcases (show w = 0 ∨ w = 1 by omega) with rfl | rfl
  · have hl : l < n 0 := hl
    rw [ztg_rs hB hl]
    exact zrs_le h hl b2 (by omega)
  · have hl : l < n 1 := hl
    rw [ztg_cs hB hl]
    exact zcs_le h hl b1 b2 (by omega)
theorem zrest_s {n v : Nat → Nat} {w k : Nat} (hw : w < 2) (hk : k < zlines (n 0) (n 1) w) : zrest n v w k ↔ zwst n v w k ∧ zrest n v w (k + 1) := by
  constructor
  · intro h
    exact ⟨h w k hw hk (by omega), fun w' l h1 h2 h3 => h w' l h1 h2 (by omega)⟩
  · rintro ⟨h1, h⟩ w' l h2 h3 h4
    by_cases e : w' = w ∧ l = k
    · obtain ⟨rfl, rfl⟩ := e; exact h1
    · exact h w' l h2 h3 (by omega)
theorem zrest_e {n v : Nat → Nat} {w k : Nat} (hk : zlines (n 0) (n 1) w ≤ k) : zrest n v w k ↔ zrest n v (w + 1) 0 := by
  constructor
  · intro h w' l h1 h2 h3
    exact h w' l h1 h2 (by omega)
  · intro h w' l h1 h2 h3
    refine h w' l h1 h2 ?_
    rcases h3 with h3 | ⟨rfl, h3⟩
    · omega
    · omega
theorem zst_t {n : Nat → Nat} {l x : Nat} (h : zdn (zpl n n l) ≤ x ∧ x ≤ zhi (zpl n n l)) : zst n n l x = true := decide_eq_true h
theorem zst_f {n : Nat → Nat} {l x : Nat} (h : ¬ (zdn (zpl n n l) ≤ x ∧ x ≤ zhi (zpl n n l))) : ¬ zst n n l x = true := fun q => h (of_decide_eq_true q)
set_option maxHeartbeats 2000000 in
set_option maxRecDepth 20000 in
theorem l2_X10_fitsWhole {lay : List zL} {Q : Value → zI → zJ → Prop} {n v : Nat → Nat} {d : Nat} {I : zI} {J : zJ} {a : Int32} (hM : kM lay) (hW : vW I n) (hB : bS n) (hT : bT n) (hv : zagr I 89 n v 9) (hL : zlim I n) : ∀ (m w k b : Nat), 5 * (2 - w) + (4 - k) < m → w < 2 → k ≤ zlines (n 0) (n 1) w → b ≤ 1 → (∀ b', b' ≤ 1 → (b' = 1 ↔ b = 1 ∧ zrest n v w k) → Q (.int (nI b')) I J) → Z lay MX10_fitsWhole (d + 5) 55 [.ref 79, .int a, .int (nI b), .int (nI w), .int (nI k)] [] I J Q := by
  obtain ⟨mo, m80, m81, m82, m83, m84, m85, m86, m87, m88, m89, m90, m91, m92, m93, m94, m95, m96⟩ := id hM
  have hwv := hW
  obtain ⟨b1, b2, b3, b4, b5, b6, b7, b8⟩ := id hB
  intro m
  induction m with
  | zero => intro w k b h; exact absurd h (by omega)
  | succ m ih =>
    intro w k b hm hw hk hb hq
    have hz := zlines_le (w := w) b2 b4
    have hz01 := zb01 hb
    refine z_iload (pc := 55) dX10_fitsWhole_55 rfl ?_
    refine z_aload_n (pc := 57) dX10_fitsWhole_57 rfl rfl ?_
    refine z_iload_n (pc := 58) dX10_fitsWhole_58 rfl rfl ?_
    refine z_callV (pc := 59) (c_X10_linesOf hM hW hB (by omega)) dX10_fitsWhole_59 l_RX10_78 m_MX10_linesOf n_MX10_linesOf e_MX10_linesOf rfl (by omega) (by assumption) rfl rfl (Nat.le_of_ble_eq_true rfl) ?_
    rintro _ _ _ (⟨rfl, rfl, rfl⟩)
    try dsimp only [zov, Option.toList, List.cons_append, List.nil_append]
    first | refine z_icmp_geN (pc := 62) (tgt := 119) (by with_reducible rfl) (by with_reducible rfl) dX10_fitsWhole_62 (by decide) (by omega) (by omega) (fun hb62 => ?_) (fun hb62 => ?_) | refine z_icmp_ge (pc := 62) (tgt := 119) dX10_fitsWhole_62 (by decide) (fun hb62 => ?_) (fun hb62 => ?_)
    · skip
      first | refine z_iincN (pc := 119) (c := 1) dX10_fitsWhole_119 rfl (by with_reducible rfl) (by decide) (by decide) rfl ?_ | refine z_iinc (pc := 119) dX10_fitsWhole_119 rfl rfl (by decide) rfl ?_
      try dsimp only [zst1, zst2, zk]
      refine z_goto (pc := 122) (tgt := 47) dX10_fitsWhole_122 (by decide) ?_
      refine z_iload_n (pc := 47) dX10_fitsWhole_47 rfl rfl ?_
      refine z_iconst (pc := 48) (v := nI 2) dX10_fitsWhole_48 (by decide) ?_
      first | refine z_icmp_geN (pc := 49) (tgt := 125) (by with_reducible rfl) (by with_reducible rfl) dX10_fitsWhole_49 (by decide) (by omega) (by omega) (fun hb49 => ?_) (fun hb49 => ?_) | refine z_icmp_ge (pc := 49) (tgt := 125) dX10_fitsWhole_49 (by decide) (fun hb49 => ?_) (fun hb49 => ?_)
      · skip
        refine z_iload_n (pc := 125) dX10_fitsWhole_125 rfl rfl ?_
        refine z_zret (pc := 126) dX10_fitsWhole_126 rfl (by first | decide | assumption) ?_
        first
        | exact hq b hb ⟨fun h => ⟨h, fun w' l h1 h2 h3 => absurd h3 (by rcases (show w' = w ∨ w' < w by omega) with rfl | h <;> omega)⟩, fun h => h.1⟩
        | (refine hq _ (by omega) ?_
           rw [zrest_e (n := n) (v := v) (w := w) (k := k) (by omega)]
           exact ⟨fun h => ⟨by omega, fun w' l h1 h2 h3 => absurd h3 (by omega)⟩, fun h => h.1⟩)
        | fail
      · skip
        refine z_iconst (pc := 52) (v := nI 0) dX10_fitsWhole_52 (by decide) ?_
        refine z_istore (pc := 53) dX10_fitsWhole_53 (by decide) rfl ?_
        try dsimp only [zst1, zst2, zk]
        first
        | exact ih w (k + 1) 1 (by omega) hw (by omega) (by omega) (fun b' h1 h2 => hq b' h1 (by rw [h2, zrest_s (n := n) (v := v) (w := w) (k := k) hw (by omega)]; exact ⟨fun h => ⟨by omega, zst_t hx, h.2⟩, fun h => ⟨rfl, h.2.2⟩⟩))
        | exact ih w (k + 1) 0 (by omega) hw (by omega) (by omega) (fun b' h1 h2 => hq b' h1 (by rw [h2, zrest_s (n := n) (v := v) (w := w) (k := k) hw (by omega)]; exact ⟨fun h => absurd h.1 (by decide), fun h => absurd h.2.1 (zst_f hx)⟩))
        | exact ih w (k + 1) 0 (by omega) hw (by omega) (by omega) (fun b' h1 h2 => hq b' h1 (by rw [h2]; exact ⟨fun h => absurd h.1 (by decide), fun h => absurd h.1 (by omega)⟩))
        | exact ih (w + 1) 0 b (by omega) (by omega) (by omega) hb (fun b' h1 h2 => hq b' h1 (by rw [h2, zrest_e (n := n) (v := v) (w := w) (k := k) (by omega)]))
        | fail
    · skip
      refine z_iload_n (pc := 65) dX10_fitsWhole_65 rfl rfl ?_
      first | refine z_if_eqN (pc := 66) (tgt := 111) (by with_reducible rfl) dX10_fitsWhole_66 (by decide) (by omega) (fun hb66 => ?_) (fun hb66 => ?_) | refine z_if_eq (pc := 66) (tgt := 111) dX10_fitsWhole_66 (by decide) (fun hb66 => ?_) (fun hb66 => ?_)
      · skip
        refine z_iconst (pc := 111) (v := nI 0) dX10_fitsWhole_111 (by decide) ?_
        refine z_istore_n (pc := 112) dX10_fitsWhole_112 rfl (by decide) rfl ?_
        try dsimp only [zst1, zst2, zk]
        first | refine z_iincN (pc := 113) (c := 1) dX10_fitsWhole_113 rfl (by with_reducible rfl) (by decide) (by decide) rfl ?_ | refine z_iinc (pc := 113) dX10_fitsWhole_113 rfl rfl (by decide) rfl ?_
        try dsimp only [zst1, zst2, zk]
        refine z_goto (pc := 116) (tgt := 55) dX10_fitsWhole_116 (by decide) ?_
        first
        | exact ih w (k + 1) 1 (by omega) hw (by omega) (by omega) (fun b' h1 h2 => hq b' h1 (by rw [h2, zrest_s (n := n) (v := v) (w := w) (k := k) hw (by omega)]; exact ⟨fun h => ⟨by omega, zst_t hx, h.2⟩, fun h => ⟨rfl, h.2.2⟩⟩))
        | exact ih w (k + 1) 0 (by omega) hw (by omega) (by omega) (fun b' h1 h2 => hq b' h1 (by rw [h2, zrest_s (n := n) (v := v) (w := w) (k := k) hw (by omega)]; exact ⟨fun h => absurd h.1 (by decide), fun h => absurd h.2.1 (zst_f hx)⟩))
        | exact ih w (k + 1) 0 (by omega) hw (by omega) (by omega) (fun b' h1 h2 => hq b' h1 (by rw [h2]; exact ⟨fun h => absurd h.1 (by decide), fun h => absurd h.1 (by omega)⟩))
        | exact ih (w + 1) 0 b (by omega) (by omega) (by omega) hb (fun b' h1 h2 => hq b' h1 (by rw [h2, zrest_e (n := n) (v := v) (w := w) (k := k) (by omega)]))
        | fail
      · skip
        refine z_aload_n (pc := 69) dX10_fitsWhole_69 rfl rfl ?_
        refine z_iload_n (pc := 70) dX10_fitsWhole_70 rfl rfl ?_
        refine z_iload (pc := 71) dX10_fitsWhole_71 rfl ?_
        refine z_callV (pc := 73) (c_X10_togetherOf hM hW hB (by omega) (by omega) hv) dX10_fitsWhole_73 l_RX10_241 m_MX10_togetherOf n_MX10_togetherOf e_MX10_togetherOf rfl (by omega) (by assumption) rfl rfl (Nat.le_of_ble_eq_true rfl) ?_
        rintro _ _ _ (⟨rfl, rfl, rfl⟩)
        have hle := ztg_le hB hv hw (show k < zlines (n 0) (n 1) w by omega)
        have hzz := zhi_le (zpl_bd (n := n) hT (3 * w + k))
        try dsimp only [zov, Option.toList, List.cons_append, List.nil_append]
        first | refine z_i2lN (pc := 76) (by with_reducible rfl) dX10_fitsWhole_76 (by omega) ?_ | refine z_i2l (pc := 76) dX10_fitsWhole_76 rfl ?_
        refine z_aload_n (pc := 77) dX10_fitsWhole_77 rfl rfl ?_
        refine z_getR (pc := 78) dX10_fitsWhole_78 f_RX10_36 (by assumption) rfl ?_
        refine z_iconst (pc := 81) (v := nI 3) dX10_fitsWhole_81 (by decide) ?_
        refine z_iload_n (pc := 82) dX10_fitsWhole_82 rfl rfl ?_
        first | refine z_imulN (pc := 83) (by with_reducible rfl) (by with_reducible rfl) dX10_fitsWhole_83 ?_ | refine z_imul (pc := 83) dX10_fitsWhole_83 ?_
        refine z_iload (pc := 84) dX10_fitsWhole_84 rfl ?_
        first | refine z_iaddN (pc := 86) (by with_reducible rfl) (by with_reducible rfl) dX10_fitsWhole_86 ?_ | refine z_iadd (pc := 86) dX10_fitsWhole_86 ?_
        refine z_ialoadv (pc := 87) dX10_fitsWhole_87 (by assumption) (by with_reducible rfl) (by omega) (by decide) (by first | assumption | exact hW _ (by omega) | exact (hL.1 w k hw (by omega)).1 | exact (hL.1 w k hw (by omega)).2 | rfl) ?_
        first | refine z_i2lN (pc := 88) (by with_reducible rfl) dX10_fitsWhole_88 (by omega) ?_ | refine z_i2l (pc := 88) dX10_fitsWhole_88 rfl ?_
        refine z_aload_n (pc := 89) dX10_fitsWhole_89 rfl rfl ?_
        refine z_getR (pc := 90) dX10_fitsWhole_90 f_RX10_39 (by assumption) rfl ?_
        refine z_iconst (pc := 93) (v := nI 3) dX10_fitsWhole_93 (by decide) ?_
        refine z_iload_n (pc := 94) dX10_fitsWhole_94 rfl rfl ?_
        first | refine z_imulN (pc := 95) (by with_reducible rfl) (by with_reducible rfl) dX10_fitsWhole_95 ?_ | refine z_imul (pc := 95) dX10_fitsWhole_95 ?_
        refine z_iload (pc := 96) dX10_fitsWhole_96 rfl ?_
        first | refine z_iaddN (pc := 98) (by with_reducible rfl) (by with_reducible rfl) dX10_fitsWhole_98 ?_ | refine z_iadd (pc := 98) dX10_fitsWhole_98 ?_
        refine z_ialoadv (pc := 99) dX10_fitsWhole_99 (by assumption) (by with_reducible rfl) (by omega) (by decide) (by first | assumption | exact hW _ (by omega) | exact (hL.1 w k hw (by omega)).1 | exact (hL.1 w k hw (by omega)).2 | rfl) ?_
        first | refine z_i2lN (pc := 100) (by with_reducible rfl) dX10_fitsWhole_100 (by omega) ?_ | refine z_i2l (pc := 100) dX10_fitsWhole_100 rfl ?_
        refine z_callS (pc := 101) (c_X10_withinN (by omega) (by omega) (by omega)) dX10_fitsWhole_101 l_RX10_68 m_MX10_within s_MX10_within rfl (by omega) rfl (Nat.le_of_ble_eq_true rfl) ?_
        rintro _ _ _ ⟨⟨rfl, hx⟩ | ⟨rfl, hx⟩, rfl, rfl⟩
        · skip
          try dsimp only [zov, Option.toList, List.cons_append, List.nil_append]
          first | refine z_if_eqN (pc := 104) (tgt := 111) (by with_reducible rfl) dX10_fitsWhole_104 (by decide) (by omega) (fun hb104 => absurd hb104 (by decide)) (fun hb104 => ?_) | refine z_if_eq (pc := 104) (tgt := 111) dX10_fitsWhole_104 (by decide) (fun hb104 => absurd hb104 (by decide)) (fun hb104 => ?_)
          · skip
            refine z_iconst (pc := 107) (v := nI 1) dX10_fitsWhole_107 (by decide) ?_
            refine z_goto (pc := 108) (tgt := 112) dX10_fitsWhole_108 (by decide) ?_
            refine z_istore_n (pc := 112) dX10_fitsWhole_112 rfl (by decide) rfl ?_
            try dsimp only [zst1, zst2, zk]
            first | refine z_iincN (pc := 113) (c := 1) dX10_fitsWhole_113 rfl (by with_reducible rfl) (by decide) (by decide) rfl ?_ | refine z_iinc (pc := 113) dX10_fitsWhole_113 rfl rfl (by decide) rfl ?_
            try dsimp only [zst1, zst2, zk]
            refine z_goto (pc := 116) (tgt := 55) dX10_fitsWhole_116 (by decide) ?_
            first
            | exact ih w (k + 1) 1 (by omega) hw (by omega) (by omega) (fun b' h1 h2 => hq b' h1 (by rw [h2, zrest_s (n := n) (v := v) (w := w) (k := k) hw (by omega)]; exact ⟨fun h => ⟨by omega, zst_t hx, h.2⟩, fun h => ⟨rfl, h.2.2⟩⟩))
            | exact ih w (k + 1) 0 (by omega) hw (by omega) (by omega) (fun b' h1 h2 => hq b' h1 (by rw [h2, zrest_s (n := n) (v := v) (w := w) (k := k) hw (by omega)]; exact ⟨fun h => absurd h.1 (by decide), fun h => absurd h.2.1 (zst_f hx)⟩))
            | exact ih w (k + 1) 0 (by omega) hw (by omega) (by omega) (fun b' h1 h2 => hq b' h1 (by rw [h2]; exact ⟨fun h => absurd h.1 (by decide), fun h => absurd h.1 (by omega)⟩))
            | exact ih (w + 1) 0 b (by omega) (by omega) (by omega) hb (fun b' h1 h2 => hq b' h1 (by rw [h2, zrest_e (n := n) (v := v) (w := w) (k := k) (by omega)]))
            | fail
        · skip
          try dsimp only [zov, Option.toList, List.cons_append, List.nil_append]
          first | refine z_if_eqN (pc := 104) (tgt := 111) (by with_reducible rfl) dX10_fitsWhole_104 (by decide) (by omega) (fun hb104 => ?_) (fun hb104 => absurd hb104 (by decide)) | refine z_if_eq (pc := 104) (tgt := 111) dX10_fitsWhole_104 (by decide) (fun hb104 => ?_) (fun hb104 => absurd hb104 (by decide))
          · skip
            refine z_iconst (pc := 111) (v := nI 0) dX10_fitsWhole_111 (by decide) ?_
            refine z_istore_n (pc := 112) dX10_fitsWhole_112 rfl (by decide) rfl ?_
            try dsimp only [zst1, zst2, zk]
            first | refine z_iincN (pc := 113) (c := 1) dX10_fitsWhole_113 rfl (by with_reducible rfl) (by decide) (by decide) rfl ?_ | refine z_iinc (pc := 113) dX10_fitsWhole_113 rfl rfl (by decide) rfl ?_
            try dsimp only [zst1, zst2, zk]
            refine z_goto (pc := 116) (tgt := 55) dX10_fitsWhole_116 (by decide) ?_
            first
            | exact ih w (k + 1) 1 (by omega) hw (by omega) (by omega) (fun b' h1 h2 => hq b' h1 (by rw [h2, zrest_s (n := n) (v := v) (w := w) (k := k) hw (by omega)]; exact ⟨fun h => ⟨by omega, zst_t hx, h.2⟩, fun h => ⟨rfl, h.2.2⟩⟩))
            | exact ih w (k + 1) 0 (by omega) hw (by omega) (by omega) (fun b' h1 h2 => hq b' h1 (by rw [h2, zrest_s (n := n) (v := v) (w := w) (k := k) hw (by omega)]; exact ⟨fun h => absurd h.1 (by decide), fun h => absurd h.2.1 (zst_f hx)⟩))
            | exact ih w (k + 1) 0 (by omega) hw (by omega) (by omega) (fun b' h1 h2 => hq b' h1 (by rw [h2]; exact ⟨fun h => absurd h.1 (by decide), fun h => absurd h.1 (by omega)⟩))
            | exact ih (w + 1) 0 b (by omega) (by omega) (by omega) hb (fun b' h1 h2 => hq b' h1 (by rw [h2, zrest_e (n := n) (v := v) (w := w) (k := k) (by omega)]))
            | fail
set_option maxHeartbeats 2000000 in
set_option maxRecDepth 20000 in
theorem c_X10_fitsWhole {lay : List zL} {I : zI} {J : zJ} {n v : Nat → Nat} (hM : kM lay) (hW : vW I n) (hB : bS n) (hT : bT n) (hv : zagr I 89 n v 9) (hL : zlim I n) : zMet lay MX10_fitsWhole 5 [.ref 79] I J (fun r I' J' => ((r = .int (nI 1) ∧ zokw n v = true) ∨ (r = .int (nI 0) ∧ zokw n v = false)) ∧ I = I' ∧ J = J') := by
  refine zMet_of (t := MX10_fitsWhole) (ls := [.ref 79, .null, .null, .null, .null]) (by decide +kernel) (Nat.le_of_ble_eq_true rfl) rfl ?_
  obtain ⟨mo, m80, m81, m82, m83, m84, m85, m86, m87, m88, m89, m90, m91, m92, m93, m94, m95, m96⟩ := id hM
  have hwv := hW
  obtain ⟨b1, b2, b3, b4, b5, b6, b7, b8⟩ := id hB
  have hzz := zhi_le (zpl_bd (n := n) hT 6)
  have hza := zas_le hv b2 b4 (by omega)
  have hL6 := hL.2.1
  have hL7 := hL.2.2
  have hfin : ∀ s b', b' ≤ 1 → (s = 1 ↔ zst n n 6 (zas n v) = true) → (b' = 1 ↔ s = 1 ∧ zrest n v 0 0) → ((Value.int (nI b') = .int (nI 1) ∧ zokw n v = true) ∨ (Value.int (nI b') = .int (nI 0) ∧ zokw n v = false)) := (by
    intro s b' h1 h2 h3
    have h4 : b' = 1 ↔ zokw n v = true := (by rw [zokw_rest hB, h3, h2])
    rcases (show b' = 0 ∨ b' = 1 by omega) with rfl | rfl
    · exact Or.inr ⟨rfl, Bool.eq_false_iff.mpr (fun e => absurd (h4.mpr e) (by decide))⟩
    · exact Or.inl ⟨rfl, h4.mp rfl⟩)
  refine z_iconst (pc := 0) (v := nI 0) dX10_fitsWhole_0 (by decide) ?_
  refine z_istore_n (pc := 1) dX10_fitsWhole_1 rfl (by decide) rfl ?_
  try dsimp only [zst1, zst2, zk]
  refine z_iconst (pc := 2) (v := nI 0) dX10_fitsWhole_2 (by decide) ?_
  refine z_istore_n (pc := 3) dX10_fitsWhole_3 rfl (by decide) rfl ?_
  try dsimp only [zst1, zst2, zk]
  refine l1_X10_fitsWhole (d := 0) hM hW hB hv ?_ (n 0) 0 0 (Nat.zero_add _) (Nat.zero_add _)
  refine z_iload_n (pc := 29) dX10_fitsWhole_29 rfl rfl ?_
  first | refine z_i2lN (pc := 30) (by with_reducible rfl) dX10_fitsWhole_30 (by omega) ?_ | refine z_i2l (pc := 30) dX10_fitsWhole_30 rfl ?_
  refine z_aload_n (pc := 31) dX10_fitsWhole_31 rfl rfl ?_
  refine z_getIv (pc := 32) dX10_fitsWhole_32 f_RX10_235 (by assumption) rfl (by first | assumption | rfl) ?_
  first | refine z_i2lN (pc := 35) (by with_reducible rfl) dX10_fitsWhole_35 (by omega) ?_ | refine z_i2l (pc := 35) dX10_fitsWhole_35 rfl ?_
  refine z_aload_n (pc := 36) dX10_fitsWhole_36 rfl rfl ?_
  refine z_getIv (pc := 37) dX10_fitsWhole_37 f_RX10_238 (by assumption) rfl (by first | assumption | rfl) ?_
  first | refine z_i2lN (pc := 40) (by with_reducible rfl) dX10_fitsWhole_40 (by omega) ?_ | refine z_i2l (pc := 40) dX10_fitsWhole_40 rfl ?_
  refine z_callS (pc := 41) (c_X10_withinN (by omega) (by omega) (by omega)) dX10_fitsWhole_41 l_RX10_68 m_MX10_within s_MX10_within rfl (by omega) rfl (Nat.le_of_ble_eq_true rfl) ?_
  rintro _ _ _ ⟨⟨rfl, hx⟩ | ⟨rfl, hx⟩, rfl, rfl⟩
  · skip
    try dsimp only [zov, Option.toList, List.cons_append, List.nil_append]
    refine z_istore_n (pc := 44) dX10_fitsWhole_44 rfl (by decide) rfl ?_
    try dsimp only [zst1, zst2, zk]
    refine z_iconst (pc := 45) (v := nI 0) dX10_fitsWhole_45 (by decide) ?_
    refine z_istore_n (pc := 46) dX10_fitsWhole_46 rfl (by decide) rfl ?_
    try dsimp only [zst1, zst2, zk]
    refine z_iload_n (pc := 47) dX10_fitsWhole_47 rfl rfl ?_
    refine z_iconst (pc := 48) (v := nI 2) dX10_fitsWhole_48 (by decide) ?_
    first | refine z_icmp_geN (pc := 49) (tgt := 125) (by with_reducible rfl) (by with_reducible rfl) dX10_fitsWhole_49 (by decide) (by omega) (by omega) (fun hb49 => absurd hb49 (by omega)) (fun hb49 => ?_) | refine z_icmp_ge (pc := 49) (tgt := 125) dX10_fitsWhole_49 (by decide) (fun hb49 => absurd hb49 (by omega)) (fun hb49 => ?_)
    · skip
      refine z_iconst (pc := 52) (v := nI 0) dX10_fitsWhole_52 (by decide) ?_
      refine z_istore (pc := 53) dX10_fitsWhole_53 (by decide) rfl ?_
      try dsimp only [zst1, zst2, zk]
      first
      | exact l2_X10_fitsWhole (d := 0) hM hW hB hT hv hL 100 0 0 1 (by omega) (by omega) (by omega) (by omega) (fun b' h1 h2 => ⟨hfin 1 b' h1 ⟨fun _ => zst_t hx, fun _ => rfl⟩ h2, rfl, rfl⟩)
      | exact l2_X10_fitsWhole (d := 0) hM hW hB hT hv hL 100 0 0 0 (by omega) (by omega) (by omega) (by omega) (fun b' h1 h2 => ⟨hfin 0 b' h1 ⟨fun h => absurd h (by decide), fun h => absurd h (zst_f hx)⟩ h2, rfl, rfl⟩)
      | fail
  · skip
    try dsimp only [zov, Option.toList, List.cons_append, List.nil_append]
    refine z_istore_n (pc := 44) dX10_fitsWhole_44 rfl (by decide) rfl ?_
    try dsimp only [zst1, zst2, zk]
    refine z_iconst (pc := 45) (v := nI 0) dX10_fitsWhole_45 (by decide) ?_
    refine z_istore_n (pc := 46) dX10_fitsWhole_46 rfl (by decide) rfl ?_
    try dsimp only [zst1, zst2, zk]
    refine z_iload_n (pc := 47) dX10_fitsWhole_47 rfl rfl ?_
    refine z_iconst (pc := 48) (v := nI 2) dX10_fitsWhole_48 (by decide) ?_
    first | refine z_icmp_geN (pc := 49) (tgt := 125) (by with_reducible rfl) (by with_reducible rfl) dX10_fitsWhole_49 (by decide) (by omega) (by omega) (fun hb49 => absurd hb49 (by omega)) (fun hb49 => ?_) | refine z_icmp_ge (pc := 49) (tgt := 125) dX10_fitsWhole_49 (by decide) (fun hb49 => absurd hb49 (by omega)) (fun hb49 => ?_)
    · skip
      refine z_iconst (pc := 52) (v := nI 0) dX10_fitsWhole_52 (by decide) ?_
      refine z_istore (pc := 53) dX10_fitsWhole_53 (by decide) rfl ?_
      try dsimp only [zst1, zst2, zk]
      first
      | exact l2_X10_fitsWhole (d := 0) hM hW hB hT hv hL 100 0 0 1 (by omega) (by omega) (by omega) (by omega) (fun b' h1 h2 => ⟨hfin 1 b' h1 ⟨fun _ => zst_t hx, fun _ => rfl⟩ h2, rfl, rfl⟩)
      | exact l2_X10_fitsWhole (d := 0) hM hW hB hT hv hL 100 0 0 0 (by omega) (by omega) (by omega) (by omega) (fun b' h1 h2 => ⟨hfin 0 b' h1 ⟨fun h => absurd h (by decide), fun h => absurd h (zst_f hx)⟩ h2, rfl, rfl⟩)
      | fail
def zGO (lay : List zL) (n : Nat → Nat) (f k : Nat) : Prop := ∀ (I : zI) (J : zJ) (v : Nat → Nat), vW I n → zlim I n → zagr I 89 n v k → zMet lay MX10_goesOn (6 + f) [.ref 79, .int (nI k)] I J (fun r I' J' => ((r = .int (nI 1) ∧ ∃ w, zgo n f k v = some w ∧ zagr I' 89 n w 9) ∨ (r = .int (nI 0) ∧ zgo n f k v = none ∧ ∀ j, j < k → I' 90 j = I 90 j)) ∧ (∀ x, x ≠ 90 → I' x = I x) ∧ J = J')
theorem zlim_to {I I' : zI} {n : Nat → Nat} (h : zlim I n) (hf : ∀ x, x ≠ 90 → I' x = I x) : zlim I' n := by
  unfold zlim
  rw [hf 88 (by omega), hf 89 (by omega), hf 79 (by omega)]
  exact h
theorem vW_90 {I I' : zI} {n : Nat → Nat} (h : vW I n) (hf : ∀ x, x ≠ 90 → I' x = I x) : vW I' n := vW_to h (fun y => by rw [hf 80 (by omega)])
theorem zgo_a {n v w : Nat → Nat} {f k : Nat} (h : zgo n f (k + 1) (zset1 v k (n (34 + k) / n (43 + k))) = some w) : zgo n (f + 1) k v = some w := by rw [zgo_1, h]
theorem zgo_b {n v : Nat → Nat} {f k : Nat} (h : zgo n f (k + 1) (zset1 v k (n (34 + k) / n (43 + k))) = none) (h2 : ¬ ((k / 3 < n 0 ∧ k % 3 < n 1) ∧ n (43 + k) ≠ 1)) : zgo n (f + 1) k v = none := by
  rw [zgo_1, h]
  exact if_neg h2
theorem zgo_c {n v : Nat → Nat} {f k : Nat} (h : zgo n f (k + 1) (zset1 v k (n (34 + k) / n (43 + k))) = none) (h2 : (k / 3 < n 0 ∧ k % 3 < n 1) ∧ n (43 + k) ≠ 1) : zgo n (f + 1) k v = zgo n f (k + 1) (zset1 v k (n (34 + k) / n (43 + k) + 1)) := by
  rw [zgo_1, h]
  exact if_pos h2
set_option maxHeartbeats 2000000 in
set_option maxRecDepth 20000 in
theorem c_X10_goesOn {lay : List zL} {n : Nat → Nat} (hM : kM lay) (hB : bS n) (hT : bT n) : ∀ (f k : Nat), k + f = 9 → zGO lay n f k := by
  intro f
  induction f with
  | zero =>
    intro k hk I J v hW hL hv
    obtain rfl : k = 9 := (by omega)
    refine zMet_of (t := MX10_goesOn) (ls := [.ref 79, .int (nI 9), .null]) (by decide +kernel) (Nat.le_of_ble_eq_true rfl) rfl ?_
    obtain ⟨mo, m80, m81, m82, m83, m84, m85, m86, m87, m88, m89, m90, m91, m92, m93, m94, m95, m96⟩ := id hM
    refine z_iload_n (pc := 0) dX10_goesOn_0 rfl rfl ?_
    refine z_bipush (pc := 1) (v := nI 9) dX10_goesOn_1 (by decide) ?_
    first | refine z_icmp_neN (pc := 3) (tgt := 11) (by with_reducible rfl) (by with_reducible rfl) dX10_goesOn_3 (by decide) (by omega) (by omega) (fun hb3 => absurd rfl hb3) (fun hb3 => ?_) | refine z_icmp_ne (pc := 3) (tgt := 11) dX10_goesOn_3 (by decide) (fun hb3 => absurd rfl hb3) (fun hb3 => ?_)
    · skip
      refine z_aload_n (pc := 6) dX10_goesOn_6 rfl rfl ?_
      refine z_callV (pc := 7) (c_X10_fitsWhole hM hW hB hT hv hL) dX10_goesOn_7 l_RX10_244 m_MX10_fitsWhole n_MX10_fitsWhole e_MX10_fitsWhole rfl (by omega) (by assumption) rfl rfl (Nat.le_of_ble_eq_true rfl) ?_
      rintro _ _ _ ⟨⟨rfl, hx⟩ | ⟨rfl, hx⟩, rfl, rfl⟩
      · skip
        try dsimp only [zov, Option.toList, List.cons_append, List.nil_append]
        refine z_zret (pc := 10) dX10_goesOn_10 rfl (by first | decide | assumption) ?_
        first
        | exact ⟨Or.inl ⟨rfl, v, by rw [zgo_0, if_pos hx], hv⟩, fun _ _ => rfl, rfl⟩
        | exact ⟨Or.inr ⟨rfl, by rw [zgo_0, if_neg (by rw [hx]; decide)], fun _ _ => rfl⟩, fun _ _ => rfl, rfl⟩
        | fail
      · skip
        try dsimp only [zov, Option.toList, List.cons_append, List.nil_append]
        refine z_zret (pc := 10) dX10_goesOn_10 rfl (by first | decide | assumption) ?_
        first
        | exact ⟨Or.inl ⟨rfl, v, by rw [zgo_0, if_pos hx], hv⟩, fun _ _ => rfl, rfl⟩
        | exact ⟨Or.inr ⟨rfl, by rw [zgo_0, if_neg (by rw [hx]; decide)], fun _ _ => rfl⟩, fun _ _ => rfl, rfl⟩
        | fail
  | succ f ih =>
    intro k hk I J v hW hL hv
    refine zMet_of (t := MX10_goesOn) (ls := [.ref 79, .int (nI k), .null]) (by decide +kernel) (Nat.le_of_ble_eq_true rfl) rfl ?_
    obtain ⟨mo, m80, m81, m82, m83, m84, m85, m86, m87, m88, m89, m90, m91, m92, m93, m94, m95, m96⟩ := id hM
    have hwv := hW
    obtain ⟨b1, b2, b3, b4, b5, b6, b7, b8⟩ := id hB
    have ht := hT k (by omega)
    have hdv := Nat.div_le_self (n (34 + k)) (n (43 + k))
    have hf0 : ∀ (x : Nat) (a : Int32), x ≠ 90 → zup I 90 k a x = I x := fun x a h => zup_o h
    refine z_iload_n (pc := 0) dX10_goesOn_0 rfl rfl ?_
    refine z_bipush (pc := 1) (v := nI 9) dX10_goesOn_1 (by decide) ?_
    first | refine z_icmp_neN (pc := 3) (tgt := 11) (by with_reducible rfl) (by with_reducible rfl) dX10_goesOn_3 (by decide) (by omega) (by omega) (fun hb3 => ?_) (fun hb3 => absurd hb3 (by omega)) | refine z_icmp_ne (pc := 3) (tgt := 11) dX10_goesOn_3 (by decide) (fun hb3 => ?_) (fun hb3 => absurd hb3 (by omega))
    · skip
      refine z_aload_n (pc := 11) dX10_goesOn_11 rfl rfl ?_
      refine z_getR (pc := 12) dX10_goesOn_12 f_RX10_11 (by assumption) rfl ?_
      refine z_bipush (pc := 15) (v := nI 34) dX10_goesOn_15 (by decide) ?_
      refine z_iload_n (pc := 17) dX10_goesOn_17 rfl rfl ?_
      first | refine z_iaddN (pc := 18) (by with_reducible rfl) (by with_reducible rfl) dX10_goesOn_18 ?_ | refine z_iadd (pc := 18) dX10_goesOn_18 ?_
      refine z_ialoadv (pc := 19) dX10_goesOn_19 (by assumption) (by with_reducible rfl) (by omega) (by decide) (by first | assumption | exact hW _ (by omega) | exact hW1 _ (by omega) | rfl) ?_
      refine z_aload_n (pc := 20) dX10_goesOn_20 rfl rfl ?_
      refine z_getR (pc := 21) dX10_goesOn_21 f_RX10_11 (by assumption) rfl ?_
      refine z_bipush (pc := 24) (v := nI 43) dX10_goesOn_24 (by decide) ?_
      refine z_iload_n (pc := 26) dX10_goesOn_26 rfl rfl ?_
      first | refine z_iaddN (pc := 27) (by with_reducible rfl) (by with_reducible rfl) dX10_goesOn_27 ?_ | refine z_iadd (pc := 27) dX10_goesOn_27 ?_
      refine z_ialoadv (pc := 28) dX10_goesOn_28 (by assumption) (by with_reducible rfl) (by omega) (by decide) (by first | assumption | exact hW _ (by omega) | exact hW1 _ (by omega) | rfl) ?_
      refine z_idivN (pc := 29) (by with_reducible rfl) (by with_reducible rfl) dX10_goesOn_29 (by omega) (by omega) (by omega) ?_
      refine z_istore_n (pc := 30) dX10_goesOn_30 rfl (by decide) rfl ?_
      try dsimp only [zst1, zst2, zk]
      refine z_aload_n (pc := 31) dX10_goesOn_31 rfl rfl ?_
      refine z_getR (pc := 32) dX10_goesOn_32 f_RX10_42 (by assumption) rfl ?_
      refine z_iload_n (pc := 35) dX10_goesOn_35 rfl rfl ?_
      refine z_iload_n (pc := 36) dX10_goesOn_36 rfl rfl ?_
      refine z_iastore (pc := 37) dX10_goesOn_37 (by assumption) (by with_reducible rfl) (by omega) (by decide) ?_
      refine z_aload_n (pc := 38) dX10_goesOn_38 rfl rfl ?_
      refine z_iload_n (pc := 39) dX10_goesOn_39 rfl rfl ?_
      refine z_iconst (pc := 40) (v := nI 1) dX10_goesOn_40 (by decide) ?_
      first | refine z_iaddN (pc := 41) (by with_reducible rfl) (by with_reducible rfl) dX10_goesOn_41 ?_ | refine z_iadd (pc := 41) dX10_goesOn_41 ?_
      refine z_callV (pc := 42) (ih (k + 1) (by omega) _ _ _ (vW_90 hW (fun x h => hf0 x _ h)) (zlim_to hL (fun x h => hf0 x _ h)) (zagr_set (r := 89) hv (fun _ _ => rfl) (by omega))) dX10_goesOn_42 l_RX10_247 m_MX10_goesOn n_MX10_goesOn e_MX10_goesOn rfl (by omega) (by assumption) rfl rfl (Nat.le_of_ble_eq_true rfl) ?_
      rintro _ _ _ ⟨⟨rfl, w9, hw9, ha9⟩ | ⟨rfl, hw9, ha9⟩, hf9, rfl⟩
      · skip
        try dsimp only [zov, Option.toList, List.cons_append, List.nil_append]
        first | refine z_if_eqN (pc := 45) (tgt := 50) (by with_reducible rfl) dX10_goesOn_45 (by decide) (by omega) (fun hb45 => absurd hb45 (by decide)) (fun hb45 => ?_) | refine z_if_eq (pc := 45) (tgt := 50) dX10_goesOn_45 (by decide) (fun hb45 => absurd hb45 (by decide)) (fun hb45 => ?_)
        · skip
          refine z_iconst (pc := 48) (v := nI 1) dX10_goesOn_48 (by decide) ?_
          refine z_zret (pc := 49) dX10_goesOn_49 rfl (by first | decide | assumption) ?_
          first
          | exact ⟨Or.inl ⟨rfl, w9, zgo_a hw9, ha9⟩, fun x h => (hf9 x h).trans (hf0 x _ h), rfl⟩
          | exact ⟨Or.inr ⟨rfl, zgo_b hw9 (fun q => hc q.1), fun j hj => (ha9 j (by omega)).trans (zup_n _ _ (by omega))⟩, hff, rfl⟩
          | exact ⟨Or.inr ⟨rfl, zgo_b hw9 (fun q => q.2 hb68), fun j hj => (ha9 j (by omega)).trans (zup_n _ _ (by omega))⟩, hff, rfl⟩
          | exact ⟨Or.inl ⟨rfl, w8, (zgo_c hw9 ⟨hc, hb68⟩).trans hw8, ha8⟩, fun x h => (hf8 x h).trans ((zup_o h).trans (hff x h)), rfl⟩
          | exact ⟨Or.inr ⟨rfl, (zgo_c hw9 ⟨hc, hb68⟩).trans hw8, fun j hj => (ha8 j (by omega)).trans ((zup_n _ _ (by omega)).trans ((ha9 j (by omega)).trans (zup_n _ _ (by omega))))⟩, fun x h => (hf8 x h).trans ((zup_o h).trans (hff x h)), rfl⟩
          | fail
      · skip
        try dsimp only [zov, Option.toList, List.cons_append, List.nil_append]
        first | refine z_if_eqN (pc := 45) (tgt := 50) (by with_reducible rfl) dX10_goesOn_45 (by decide) (by omega) (fun hb45 => ?_) (fun hb45 => absurd hb45 (by decide)) | refine z_if_eq (pc := 45) (tgt := 50) dX10_goesOn_45 (by decide) (fun hb45 => ?_) (fun hb45 => absurd hb45 (by decide))
        · skip
          have hff := fun x (h : x ≠ 90) => (hf9 x h).trans (hf0 x _ h)
          have hW1 := vW_90 hW hff
          have hL1 := zlim_to hL hff
          refine z_aload_n (pc := 50) dX10_goesOn_50 rfl rfl ?_
          refine z_iload_n (pc := 51) dX10_goesOn_51 rfl rfl ?_
          refine z_callV (pc := 52) (c_X10_isHere hM hW1 hB (by omega)) dX10_goesOn_52 l_RX10_82 m_MX10_isHere n_MX10_isHere e_MX10_isHere rfl (by omega) (by assumption) rfl rfl (Nat.le_of_ble_eq_true rfl) ?_
          rintro _ _ _ ⟨⟨rfl, hc⟩ | ⟨rfl, hc⟩, rfl, rfl⟩
          · skip
            try dsimp only [zov, Option.toList, List.cons_append, List.nil_append]
            first | refine z_if_eqN (pc := 55) (tgt := 71) (by with_reducible rfl) dX10_goesOn_55 (by decide) (by omega) (fun hb55 => absurd hb55 (by decide)) (fun hb55 => ?_) | refine z_if_eq (pc := 55) (tgt := 71) dX10_goesOn_55 (by decide) (fun hb55 => absurd hb55 (by decide)) (fun hb55 => ?_)
            · skip
              refine z_aload_n (pc := 58) dX10_goesOn_58 rfl rfl ?_
              refine z_getR (pc := 59) dX10_goesOn_59 f_RX10_11 (by assumption) rfl ?_
              refine z_bipush (pc := 62) (v := nI 43) dX10_goesOn_62 (by decide) ?_
              refine z_iload_n (pc := 64) dX10_goesOn_64 rfl rfl ?_
              first | refine z_iaddN (pc := 65) (by with_reducible rfl) (by with_reducible rfl) dX10_goesOn_65 ?_ | refine z_iadd (pc := 65) dX10_goesOn_65 ?_
              refine z_ialoadv (pc := 66) dX10_goesOn_66 (by assumption) (by with_reducible rfl) (by omega) (by decide) (by first | assumption | exact hW _ (by omega) | exact hW1 _ (by omega) | rfl) ?_
              refine z_iconst (pc := 67) (v := nI 1) dX10_goesOn_67 (by decide) ?_
              first | refine z_icmp_neN (pc := 68) (tgt := 73) (by with_reducible rfl) (by with_reducible rfl) dX10_goesOn_68 (by decide) (by omega) (by omega) (fun hb68 => ?_) (fun hb68 => ?_) | refine z_icmp_ne (pc := 68) (tgt := 73) dX10_goesOn_68 (by decide) (fun hb68 => ?_) (fun hb68 => ?_)
              · skip
                refine z_aload_n (pc := 73) dX10_goesOn_73 rfl rfl ?_
                refine z_getR (pc := 74) dX10_goesOn_74 f_RX10_42 (by assumption) rfl ?_
                refine z_iload_n (pc := 77) dX10_goesOn_77 rfl rfl ?_
                refine z_iload_n (pc := 78) dX10_goesOn_78 rfl rfl ?_
                refine z_iconst (pc := 79) (v := nI 1) dX10_goesOn_79 (by decide) ?_
                first | refine z_iaddN (pc := 80) (by with_reducible rfl) (by with_reducible rfl) dX10_goesOn_80 ?_ | refine z_iadd (pc := 80) dX10_goesOn_80 ?_
                refine z_iastore (pc := 81) dX10_goesOn_81 (by assumption) (by with_reducible rfl) (by omega) (by decide) ?_
                refine z_aload_n (pc := 82) dX10_goesOn_82 rfl rfl ?_
                refine z_iload_n (pc := 83) dX10_goesOn_83 rfl rfl ?_
                refine z_iconst (pc := 84) (v := nI 1) dX10_goesOn_84 (by decide) ?_
                first | refine z_iaddN (pc := 85) (by with_reducible rfl) (by with_reducible rfl) dX10_goesOn_85 ?_ | refine z_iadd (pc := 85) dX10_goesOn_85 ?_
                refine z_callV (pc := 86) (ih (k + 1) (by omega) _ _ _ (vW_90 hW1 (fun x h => zup_o h)) (zlim_to hL1 (fun x h => zup_o h)) (zagr_set (r := 89) hv (fun j hj => (ha9 j (by omega)).trans (zup_n _ _ (by omega))) (by omega))) dX10_goesOn_86 l_RX10_247 m_MX10_goesOn n_MX10_goesOn e_MX10_goesOn rfl (by omega) (by assumption) rfl rfl (Nat.le_of_ble_eq_true rfl) ?_
                rintro _ _ _ ⟨⟨rfl, w8, hw8, ha8⟩ | ⟨rfl, hw8, ha8⟩, hf8, rfl⟩
                · skip
                  try dsimp only [zov, Option.toList, List.cons_append, List.nil_append]
                  refine z_zret (pc := 89) dX10_goesOn_89 rfl (by first | decide | assumption) ?_
                  first
                  | exact ⟨Or.inl ⟨rfl, w9, zgo_a hw9, ha9⟩, fun x h => (hf9 x h).trans (hf0 x _ h), rfl⟩
                  | exact ⟨Or.inr ⟨rfl, zgo_b hw9 (fun q => hc q.1), fun j hj => (ha9 j (by omega)).trans (zup_n _ _ (by omega))⟩, hff, rfl⟩
                  | exact ⟨Or.inr ⟨rfl, zgo_b hw9 (fun q => q.2 hb68), fun j hj => (ha9 j (by omega)).trans (zup_n _ _ (by omega))⟩, hff, rfl⟩
                  | exact ⟨Or.inl ⟨rfl, w8, (zgo_c hw9 ⟨hc, hb68⟩).trans hw8, ha8⟩, fun x h => (hf8 x h).trans ((zup_o h).trans (hff x h)), rfl⟩
                  | exact ⟨Or.inr ⟨rfl, (zgo_c hw9 ⟨hc, hb68⟩).trans hw8, fun j hj => (ha8 j (by omega)).trans ((zup_n _ _ (by omega)).trans ((ha9 j (by omega)).trans (zup_n _ _ (by omega))))⟩, fun x h => (hf8 x h).trans ((zup_o h).trans (hff x h)), rfl⟩
                  | fail
                · skip
                  try dsimp only [zov, Option.toList, List.cons_append, List.nil_append]
                  refine z_zret (pc := 89) dX10_goesOn_89 rfl (by first | decide | assumption) ?_
                  first
                  | exact ⟨Or.inl ⟨rfl, w9, zgo_a hw9, ha9⟩, fun x h => (hf9 x h).trans (hf0 x _ h), rfl⟩
                  | exact ⟨Or.inr ⟨rfl, zgo_b hw9 (fun q => hc q.1), fun j hj => (ha9 j (by omega)).trans (zup_n _ _ (by omega))⟩, hff, rfl⟩
                  | exact ⟨Or.inr ⟨rfl, zgo_b hw9 (fun q => q.2 hb68), fun j hj => (ha9 j (by omega)).trans (zup_n _ _ (by omega))⟩, hff, rfl⟩
                  | exact ⟨Or.inl ⟨rfl, w8, (zgo_c hw9 ⟨hc, hb68⟩).trans hw8, ha8⟩, fun x h => (hf8 x h).trans ((zup_o h).trans (hff x h)), rfl⟩
                  | exact ⟨Or.inr ⟨rfl, (zgo_c hw9 ⟨hc, hb68⟩).trans hw8, fun j hj => (ha8 j (by omega)).trans ((zup_n _ _ (by omega)).trans ((ha9 j (by omega)).trans (zup_n _ _ (by omega))))⟩, fun x h => (hf8 x h).trans ((zup_o h).trans (hff x h)), rfl⟩
                  | fail
              · skip
                refine z_iconst (pc := 71) (v := nI 0) dX10_goesOn_71 (by decide) ?_
                refine z_zret (pc := 72) dX10_goesOn_72 rfl (by first | decide | assumption) ?_
                first
                | exact ⟨Or.inl ⟨rfl, w9, zgo_a hw9, ha9⟩, fun x h => (hf9 x h).trans (hf0 x _ h), rfl⟩
                | exact ⟨Or.inr ⟨rfl, zgo_b hw9 (fun q => hc q.1), fun j hj => (ha9 j (by omega)).trans (zup_n _ _ (by omega))⟩, hff, rfl⟩
                | exact ⟨Or.inr ⟨rfl, zgo_b hw9 (fun q => q.2 hb68), fun j hj => (ha9 j (by omega)).trans (zup_n _ _ (by omega))⟩, hff, rfl⟩
                | exact ⟨Or.inl ⟨rfl, w8, (zgo_c hw9 ⟨hc, hb68⟩).trans hw8, ha8⟩, fun x h => (hf8 x h).trans ((zup_o h).trans (hff x h)), rfl⟩
                | exact ⟨Or.inr ⟨rfl, (zgo_c hw9 ⟨hc, hb68⟩).trans hw8, fun j hj => (ha8 j (by omega)).trans ((zup_n _ _ (by omega)).trans ((ha9 j (by omega)).trans (zup_n _ _ (by omega))))⟩, fun x h => (hf8 x h).trans ((zup_o h).trans (hff x h)), rfl⟩
                | fail
          · skip
            try dsimp only [zov, Option.toList, List.cons_append, List.nil_append]
            first | refine z_if_eqN (pc := 55) (tgt := 71) (by with_reducible rfl) dX10_goesOn_55 (by decide) (by omega) (fun hb55 => ?_) (fun hb55 => absurd hb55 (by decide)) | refine z_if_eq (pc := 55) (tgt := 71) dX10_goesOn_55 (by decide) (fun hb55 => ?_) (fun hb55 => absurd hb55 (by decide))
            · skip
              refine z_iconst (pc := 71) (v := nI 0) dX10_goesOn_71 (by decide) ?_
              refine z_zret (pc := 72) dX10_goesOn_72 rfl (by first | decide | assumption) ?_
              first
              | exact ⟨Or.inl ⟨rfl, w9, zgo_a hw9, ha9⟩, fun x h => (hf9 x h).trans (hf0 x _ h), rfl⟩
              | exact ⟨Or.inr ⟨rfl, zgo_b hw9 (fun q => hc q.1), fun j hj => (ha9 j (by omega)).trans (zup_n _ _ (by omega))⟩, hff, rfl⟩
              | exact ⟨Or.inr ⟨rfl, zgo_b hw9 (fun q => q.2 hb68), fun j hj => (ha9 j (by omega)).trans (zup_n _ _ (by omega))⟩, hff, rfl⟩
              | exact ⟨Or.inl ⟨rfl, w8, (zgo_c hw9 ⟨hc, hb68⟩).trans hw8, ha8⟩, fun x h => (hf8 x h).trans ((zup_o h).trans (hff x h)), rfl⟩
              | exact ⟨Or.inr ⟨rfl, (zgo_c hw9 ⟨hc, hb68⟩).trans hw8, fun j hj => (ha8 j (by omega)).trans ((zup_n _ _ (by omega)).trans ((ha9 j (by omega)).trans (zup_n _ _ (by omega))))⟩, fun x h => (hf8 x h).trans ((zup_o h).trans (hff x h)), rfl⟩
              | fail
def zmR (I I' : zI) : Prop := ∀ x y, x ≠ 88 → x ≠ 89 → x ≠ 90 → (x = 79 → y ≠ 16 ∧ y ≠ 17) → I' x y = I x y
theorem zmR_m {I I' : zI} (h : zmR I I') : zmI I I' := fun x y q => h x y (by omega) (by omega) (by omega) (by omega)
theorem zmR_1 {I I1 : zI} (h : zfL I I1) : zmR I I1 := fun x y q1 q2 q3 q4 => h x y q1 q2 q4
theorem zmR_2 {I I1 I2 : zI} (h : zfL I I1) (h2 : ∀ x, x ≠ 90 → I2 x = I1 x) : zmR I I2 := fun x y q1 q2 q3 q4 => by rw [h2 x q3]; exact h x y q1 q2 q4
theorem zagr_hq {I : zI} {n v w : Nat → Nat} (h : zagr I 89 n w 9) (e : zhq n v w 9) : zagr I 89 n v 9 := fun k h1 h2 h3 => by
  rw [e k h1 h2 h3]; exact h k h1 h2 h3
theorem zoe_some {n : Nat → Nat} {a : Option (Nat → Nat)} {w : Nat → Nat} (h : zoe n a (some w)) : ∃ v, a = some v ∧ zhq n v w 9 := by
  cases a with
  | none => exact h.elim
  | some v => exact ⟨v, rfl, h⟩
theorem zoe_none {n : Nat → Nat} {a : Option (Nat → Nat)} (h : zoe n a none) : a = none := by
  cases a with
  | none => rfl
  | some v => exact h.elim
set_option maxHeartbeats 2000000 in
set_option maxRecDepth 20000 in
theorem c_X10_isRounded {lay : List zL} {I : zI} {J : zJ} {n : Nat → Nat} (hM : kM lay) (hW : vW I n) (hB : bS n) (hT : bT n) (hG : bG n) : zMet lay MX10_isRounded 16 [.ref 79] I J (fun r I' J' => ((r = .int (nI 1) ∧ ∃ w, zrnd n n = some w ∧ zagr I' 89 n w 9) ∨ (r = .int (nI 0) ∧ zrnd n n = none)) ∧ zmR I I' ∧ zw2 J J') := by
  refine zMet_of (t := MX10_isRounded) (ls := [.ref 79]) (by decide +kernel) (Nat.le_of_ble_eq_true rfl) rfl ?_
  obtain ⟨mo, m80, m81, m82, m83, m84, m85, m86, m87, m88, m89, m90, m91, m92, m93, m94, m95, m96⟩ := id hM
  refine z_aload_n (pc := 0) dX10_isRounded_0 rfl rfl ?_
  refine z_callV (pc := 1) (c_X10_hasLimits hM hW hB hT) dX10_isRounded_1 l_RX10_250 m_MX10_hasLimits n_MX10_hasLimits e_MX10_hasLimits rfl (by omega) (by assumption) rfl rfl (Nat.le_of_ble_eq_true rfl) ?_
  rintro _ _ _ ⟨⟨rfl, hfd, hL⟩ | ⟨rfl, hfd⟩, hf, hj⟩
  · have hgo := zrnd_go hB hT hG hfd (fun _ => 0)
    try dsimp only [zov, Option.toList, List.cons_append, List.nil_append]
    first | refine z_if_eqN (pc := 4) (tgt := 19) (by with_reducible rfl) dX10_isRounded_4 (by decide) (by omega) (fun hb4 => absurd hb4 (by decide)) (fun hb4 => ?_) | refine z_if_eq (pc := 4) (tgt := 19) dX10_isRounded_4 (by decide) (fun hb4 => absurd hb4 (by decide)) (fun hb4 => ?_)
    · skip
      refine z_aload_n (pc := 7) dX10_isRounded_7 rfl rfl ?_
      refine z_iconst (pc := 8) (v := nI 0) dX10_isRounded_8 (by decide) ?_
      refine z_callV (pc := 9) (c_X10_goesOn hM hB hT 9 0 rfl _ _ (fun _ => 0) (zfL_W hf hW) hL (fun k h => absurd h (by omega))) dX10_isRounded_9 l_RX10_247 m_MX10_goesOn n_MX10_goesOn e_MX10_goesOn rfl (by omega) (by assumption) rfl rfl (Nat.le_of_ble_eq_true rfl) ?_
      rintro _ _ _ ⟨⟨rfl, w9, hw9, ha9⟩ | ⟨rfl, hw9, ha9⟩, hf9, rfl⟩
      · rw [hw9] at hgo; obtain ⟨v9, hv9, he9⟩ := zoe_some hgo
        try dsimp only [zov, Option.toList, List.cons_append, List.nil_append]
        first | refine z_if_eqN (pc := 12) (tgt := 19) (by with_reducible rfl) dX10_isRounded_12 (by decide) (by omega) (fun hb12 => absurd hb12 (by decide)) (fun hb12 => ?_) | refine z_if_eq (pc := 12) (tgt := 19) dX10_isRounded_12 (by decide) (fun hb12 => absurd hb12 (by decide)) (fun hb12 => ?_)
        · skip
          refine z_iconst (pc := 15) (v := nI 1) dX10_isRounded_15 (by decide) ?_
          refine z_goto (pc := 16) (tgt := 20) dX10_isRounded_16 (by decide) ?_
          refine z_zret (pc := 20) dX10_isRounded_20 rfl (by first | decide | assumption) ?_
          first
            | exact ⟨Or.inl ⟨rfl, v9, hv9, zagr_hq ha9 he9⟩, zmR_2 hf hf9, hj⟩
            | exact ⟨Or.inr ⟨rfl, hv9⟩, zmR_2 hf hf9, hj⟩
            | exact ⟨Or.inr ⟨rfl, zrnd_n hfd⟩, zmR_1 hf, hj⟩
            | fail
      · rw [hw9] at hgo; have hv9 := zoe_none hgo
        try dsimp only [zov, Option.toList, List.cons_append, List.nil_append]
        first | refine z_if_eqN (pc := 12) (tgt := 19) (by with_reducible rfl) dX10_isRounded_12 (by decide) (by omega) (fun hb12 => ?_) (fun hb12 => absurd hb12 (by decide)) | refine z_if_eq (pc := 12) (tgt := 19) dX10_isRounded_12 (by decide) (fun hb12 => ?_) (fun hb12 => absurd hb12 (by decide))
        · skip
          refine z_iconst (pc := 19) (v := nI 0) dX10_isRounded_19 (by decide) ?_
          refine z_zret (pc := 20) dX10_isRounded_20 rfl (by first | decide | assumption) ?_
          first
            | exact ⟨Or.inl ⟨rfl, v9, hv9, zagr_hq ha9 he9⟩, zmR_2 hf hf9, hj⟩
            | exact ⟨Or.inr ⟨rfl, hv9⟩, zmR_2 hf hf9, hj⟩
            | exact ⟨Or.inr ⟨rfl, zrnd_n hfd⟩, zmR_1 hf, hj⟩
            | fail
  · skip
    try dsimp only [zov, Option.toList, List.cons_append, List.nil_append]
    first | refine z_if_eqN (pc := 4) (tgt := 19) (by with_reducible rfl) dX10_isRounded_4 (by decide) (by omega) (fun hb4 => ?_) (fun hb4 => absurd hb4 (by decide)) | refine z_if_eq (pc := 4) (tgt := 19) dX10_isRounded_4 (by decide) (fun hb4 => ?_) (fun hb4 => absurd hb4 (by decide))
    · skip
      refine z_iconst (pc := 19) (v := nI 0) dX10_isRounded_19 (by decide) ?_
      refine z_zret (pc := 20) dX10_isRounded_20 rfl (by first | decide | assumption) ?_
      first
        | exact ⟨Or.inl ⟨rfl, v9, hv9, zagr_hq ha9 he9⟩, zmR_2 hf hf9, hj⟩
        | exact ⟨Or.inr ⟨rfl, hv9⟩, zmR_2 hf hf9, hj⟩
        | exact ⟨Or.inr ⟨rfl, zrnd_n hfd⟩, zmR_1 hf, hj⟩
        | fail
set_option maxHeartbeats 2000000 in
set_option maxRecDepth 20000 in
theorem c_X10_rounded {lay : List zL} {I : zI} {J : zJ} {S : zS} (hM : kM lay) (hV : vM I J S) {i j : Int32} : zMet lay MX10_rounded 17 [.ref 79, .int i, .int j] I J (fun r I' J' => zPM I J (frounded S i j) r I' J') := by
  refine zMet_of (t := MX10_rounded) (ls := [.ref 79, .int i, .int j]) (by decide +kernel) (Nat.le_of_ble_eq_true rfl) rfl ?_
  obtain ⟨mo, m80, m81, m82, m83, m84, m85, m86, m87, m88, m89, m90, m91, m92, m93, m94, m95, m96⟩ := id hM
  have hW : vW I S.n := hV.1.1
  have hb := hV.1.2.1
  have hG := hV.1.2.2
  have hB := hb.1
  have hT := hb.2.1
  obtain ⟨b1, b2, b3, b4, b5, b6, b7, b8⟩ := id hB
  refine z_aload_n (pc := 0) dX10_rounded_0 rfl rfl ?_
  refine z_iload_n (pc := 1) dX10_rounded_1 rfl rfl ?_
  refine z_iload_n (pc := 2) dX10_rounded_2 rfl rfl ?_
  refine z_callV (pc := 3) (c_X10_isCell hM hW hB) dX10_rounded_3 l_RX10_72 m_MX10_isCell n_MX10_isCell e_MX10_isCell rfl (by omega) (by assumption) rfl rfl (Nat.le_of_ble_eq_true rfl) ?_
  rintro _ _ _ ⟨⟨rfl, hc⟩ | ⟨rfl, hc⟩, rfl, rfl⟩
  · obtain ⟨a, b, rfl, rfl, ha, hbb⟩ := hc; have hk : 3 * a + b < 9 := (by omega); have ea : 3 * a + b = 3 * a + b := rfl
    try dsimp only [zov, Option.toList, List.cons_append, List.nil_append]
    first | refine z_if_neN (pc := 6) (tgt := 11) (by with_reducible rfl) dX10_rounded_6 (by decide) (by omega) (fun hb6 => ?_) (fun hb6 => absurd hb6 (by decide)) | refine z_if_ne (pc := 6) (tgt := 11) dX10_rounded_6 (by decide) (fun hb6 => ?_) (fun hb6 => absurd hb6 (by decide))
    · skip
      refine z_aload_n (pc := 11) dX10_rounded_11 rfl rfl ?_
      refine z_callV (pc := 12) (c_X10_isRounded hM hW hB hT hG) dX10_rounded_12 l_RX10_253 m_MX10_isRounded n_MX10_isRounded e_MX10_isRounded rfl (by omega) (by assumption) rfl rfl (Nat.le_of_ble_eq_true rfl) ?_
      rintro _ _ _ ⟨⟨rfl, w9, hr, hag⟩ | ⟨rfl, hr⟩, hf, hj⟩
      · skip
        try dsimp only [zov, Option.toList, List.cons_append, List.nil_append]
        first | refine z_if_eqN (pc := 15) (tgt := 31) (by with_reducible rfl) dX10_rounded_15 (by decide) (by omega) (fun hb15 => absurd hb15 (by decide)) (fun hb15 => ?_) | refine z_if_eq (pc := 15) (tgt := 31) dX10_rounded_15 (by decide) (fun hb15 => absurd hb15 (by decide)) (fun hb15 => ?_)
        · skip
          refine z_aload_n (pc := 18) dX10_rounded_18 rfl rfl ?_
          refine z_getR (pc := 19) dX10_rounded_19 f_RX10_42 (by assumption) rfl ?_
          refine z_iconst (pc := 22) (v := nI 3) dX10_rounded_22 (by decide) ?_
          refine z_iload_n (pc := 23) dX10_rounded_23 rfl rfl ?_
          first | refine z_imulN (pc := 24) (by with_reducible rfl) (by with_reducible rfl) dX10_rounded_24 ?_ | refine z_imul (pc := 24) dX10_rounded_24 ?_
          refine z_iload_n (pc := 25) dX10_rounded_25 rfl rfl ?_
          first | refine z_iaddN (pc := 26) (by with_reducible rfl) (by with_reducible rfl) dX10_rounded_26 ?_ | refine z_iadd (pc := 26) dX10_rounded_26 ?_
          refine z_ialoadv (pc := 27) dX10_rounded_27 (by assumption) (by with_reducible rfl) (by omega) (by decide) (by first | assumption | exact (hag _ hk (by omega) (by omega)).1 | rfl) ?_
          refine z_goto (pc := 28) (tgt := 33) dX10_rounded_28 (by decide) ?_
          refine z_iret (pc := 33) dX10_rounded_33 rfl ?_
          first
            | exact zPM_same hV (by rw [frounded, zC_n hc])
            | exact zPM_keep hV (zmR_m hf) (zw2_m hj) (by rw [frounded, zC_y b2 b4 ha hbb]; dsimp only; rw [hr])
            | fail
      · skip
        try dsimp only [zov, Option.toList, List.cons_append, List.nil_append]
        first | refine z_if_eqN (pc := 15) (tgt := 31) (by with_reducible rfl) dX10_rounded_15 (by decide) (by omega) (fun hb15 => ?_) (fun hb15 => absurd hb15 (by decide)) | refine z_if_eq (pc := 15) (tgt := 31) dX10_rounded_15 (by decide) (fun hb15 => ?_) (fun hb15 => absurd hb15 (by decide))
        · skip
          refine z_bipush (pc := 31) (v := -6) dX10_rounded_31 (by decide) ?_
          refine z_iret (pc := 33) dX10_rounded_33 rfl ?_
          first
            | exact zPM_same hV (by rw [frounded, zC_n hc])
            | exact zPM_keep hV (zmR_m hf) (zw2_m hj) (by rw [frounded, zC_y b2 b4 ha hbb]; dsimp only; rw [hr])
            | fail
  · skip
    try dsimp only [zov, Option.toList, List.cons_append, List.nil_append]
    first | refine z_if_neN (pc := 6) (tgt := 11) (by with_reducible rfl) dX10_rounded_6 (by decide) (by omega) (fun hb6 => absurd hb6 (by decide)) (fun hb6 => ?_) | refine z_if_ne (pc := 6) (tgt := 11) dX10_rounded_6 (by decide) (fun hb6 => absurd hb6 (by decide)) (fun hb6 => ?_)
    · skip
      refine z_iconst (pc := 9) (v := -1) dX10_rounded_9 (by decide) ?_
      refine z_iret (pc := 10) dX10_rounded_10 rfl ?_
      first
        | exact zPM_same hV (by rw [frounded, zC_n hc])
        | exact zPM_keep hV (zmR_m hf) (zw2_m hj) (by rw [frounded, zC_y b2 b4 ha hbb]; dsimp only; rw [hr])
        | fail
set_option maxHeartbeats 2000000 in
set_option maxRecDepth 20000 in
theorem c_X10_together {lay : List zL} {I : zI} {J : zJ} {S : zS} (hM : kM lay) (hV : vM I J S) {w l : Int32} : zMet lay MX10_together 17 [.ref 79, .int w, .int l] I J (fun r I' J' => zPM I J (ftogether S w l) r I' J') := by
  refine zMet_of (t := MX10_together) (ls := [.ref 79, .int w, .int l]) (by decide +kernel) (Nat.le_of_ble_eq_true rfl) rfl ?_
  obtain ⟨mo, m80, m81, m82, m83, m84, m85, m86, m87, m88, m89, m90, m91, m92, m93, m94, m95, m96⟩ := id hM
  have hW : vW I S.n := hV.1.1
  have hb := hV.1.2.1
  have hG := hV.1.2.2
  have hB := hb.1
  have hT := hb.2.1
  obtain ⟨b1, b2, b3, b4, b5, b6, b7, b8⟩ := id hB
  refine z_aload_n (pc := 0) dX10_together_0 rfl rfl ?_
  refine z_iload_n (pc := 1) dX10_together_1 rfl rfl ?_
  refine z_iload_n (pc := 2) dX10_together_2 rfl rfl ?_
  refine z_callV (pc := 3) (c_X10_isLine hM hW hB) dX10_together_3 l_RX10_97 m_MX10_isLine n_MX10_isLine e_MX10_isLine rfl (by omega) (by assumption) rfl rfl (Nat.le_of_ble_eq_true rfl) ?_
  rintro _ _ _ ⟨⟨rfl, hc⟩ | ⟨rfl, hc⟩, rfl, rfl⟩
  · obtain ⟨a, b, rfl, rfl, ha, hbb⟩ := hc; have hz := zlines_le (w := a) b2 b4; have hk : 3 * a + b < 9 := (by omega)
    try dsimp only [zov, Option.toList, List.cons_append, List.nil_append]
    first | refine z_if_neN (pc := 6) (tgt := 11) (by with_reducible rfl) dX10_together_6 (by decide) (by omega) (fun hb6 => ?_) (fun hb6 => absurd hb6 (by decide)) | refine z_if_ne (pc := 6) (tgt := 11) dX10_together_6 (by decide) (fun hb6 => ?_) (fun hb6 => absurd hb6 (by decide))
    · skip
      refine z_aload_n (pc := 11) dX10_together_11 rfl rfl ?_
      refine z_callV (pc := 12) (c_X10_isRounded hM hW hB hT hG) dX10_together_12 l_RX10_253 m_MX10_isRounded n_MX10_isRounded e_MX10_isRounded rfl (by omega) (by assumption) rfl rfl (Nat.le_of_ble_eq_true rfl) ?_
      rintro _ _ _ ⟨⟨rfl, w9, hr, hag⟩ | ⟨rfl, hr⟩, hf, hj⟩
      · skip
        try dsimp only [zov, Option.toList, List.cons_append, List.nil_append]
        first | refine z_if_eqN (pc := 15) (tgt := 27) (by with_reducible rfl) dX10_together_15 (by decide) (by omega) (fun hb15 => absurd hb15 (by decide)) (fun hb15 => ?_) | refine z_if_eq (pc := 15) (tgt := 27) dX10_together_15 (by decide) (fun hb15 => absurd hb15 (by decide)) (fun hb15 => ?_)
        · skip
          refine z_aload_n (pc := 18) dX10_together_18 rfl rfl ?_
          refine z_iload_n (pc := 19) dX10_together_19 rfl rfl ?_
          refine z_iload_n (pc := 20) dX10_together_20 rfl rfl ?_
          refine z_callV (pc := 21) (c_X10_togetherOf hM (vW_to hW (fun y => hf 80 y (by omega) (by omega) (by omega) (by omega))) hB (by omega) (by omega) hag) dX10_together_21 l_RX10_241 m_MX10_togetherOf n_MX10_togetherOf e_MX10_togetherOf rfl (by omega) (by assumption) rfl rfl (Nat.le_of_ble_eq_true rfl) ?_
          rintro _ _ _ (⟨rfl, rfl, rfl⟩)
          try dsimp only [zov, Option.toList, List.cons_append, List.nil_append]
          refine z_goto (pc := 24) (tgt := 29) dX10_together_24 (by decide) ?_
          refine z_iret (pc := 29) dX10_together_29 rfl ?_
          first
            | exact zPM_same hV (by rw [ftogether, zLn_n hc])
            | exact zPM_keep hV (zmR_m hf) (zw2_m hj) (by rw [ftogether, zLn_y b2 b4 ha hbb]; dsimp only; rw [hr])
            | fail
      · skip
        try dsimp only [zov, Option.toList, List.cons_append, List.nil_append]
        first | refine z_if_eqN (pc := 15) (tgt := 27) (by with_reducible rfl) dX10_together_15 (by decide) (by omega) (fun hb15 => ?_) (fun hb15 => absurd hb15 (by decide)) | refine z_if_eq (pc := 15) (tgt := 27) dX10_together_15 (by decide) (fun hb15 => ?_) (fun hb15 => absurd hb15 (by decide))
        · skip
          refine z_bipush (pc := 27) (v := -6) dX10_together_27 (by decide) ?_
          refine z_iret (pc := 29) dX10_together_29 rfl ?_
          first
            | exact zPM_same hV (by rw [ftogether, zLn_n hc])
            | exact zPM_keep hV (zmR_m hf) (zw2_m hj) (by rw [ftogether, zLn_y b2 b4 ha hbb]; dsimp only; rw [hr])
            | fail
  · skip
    try dsimp only [zov, Option.toList, List.cons_append, List.nil_append]
    first | refine z_if_neN (pc := 6) (tgt := 11) (by with_reducible rfl) dX10_together_6 (by decide) (by omega) (fun hb6 => absurd hb6 (by decide)) (fun hb6 => ?_) | refine z_if_ne (pc := 6) (tgt := 11) dX10_together_6 (by decide) (fun hb6 => absurd hb6 (by decide)) (fun hb6 => ?_)
    · skip
      refine z_iconst (pc := 9) (v := -1) dX10_together_9 (by decide) ?_
      refine z_iret (pc := 10) dX10_together_10 rfl ?_
      first
        | exact zPM_same hV (by rw [ftogether, zLn_n hc])
        | exact zPM_keep hV (zmR_m hf) (zw2_m hj) (by rw [ftogether, zLn_y b2 b4 ha hbb]; dsimp only; rw [hr])
        | fail
