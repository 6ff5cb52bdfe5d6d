/-! ===== the model's calls: fits, rounds ===== -/
theorem nI_n6 {a : Nat} (h : a ≤ 1000000) : ¬ nI a = -6 := by
  intro e
  have h3 := congrArg Int32.toInt e
  rw [nI_toInt (by omega)] at h3
  have h4 : (-6 : Int32).toInt = -6 := by decide
  omega
theorem bN_tab {n m : Nat → Nat} (h : bN n) (h1 : ∀ j, (j < 3 ∨ (4 ≤ j ∧ j < 34) ∨ 52 ≤ j) → m j = n j) (hT : bT m) : bN m := bN_of h (bS_to h.1 (fun k hk => h1 k (by omega))) hT (h1 0 (by omega)) (h1 1 (by omega)) (fun k hk => h1 k (by omega))
theorem zf3_t {I I1 I2 : zI} (h : zf3 I I1) (h2 : zf3 I1 I2) : zf3 I I2 := fun x y q1 q2 q3 => (h2 x y q1 q2 q3).trans (h x y q1 q2 q3)
set_option maxHeartbeats 2000000 in
set_option maxRecDepth 20000 in
theorem c_X10_fit {lay : List zL} {I : zI} {J : zJ} {S : zS} (hM : kM lay) (hV : vM I J S) {w : Int32} : zMet lay MX10_fit 6 [.ref 79, .int w] I J (fun r I' J' => zPM I J (ffit S w) r I' J') := by
  refine zMet_of (t := MX10_fit) (ls := [.ref 79, .int w]) (by decide +kernel) (Nat.le_of_ble_eq_true rfl) rfl ?_
  obtain ⟨mo, m80, m81, m82, m83, m84, m85, m86, m87, m88, m89, m90, m91, m92, m93, m94, m95, m96⟩ := id hM
  have hW : vW I S.n := hV.1.1
  have hb := hV.1.2.1
  have hG := hV.1.2.2
  have hB := hb.1
  have hT := hb.2.1
  obtain ⟨b1, b2, b3, b4, b5, b6, b7, b8⟩ := id hB
  refine z_iload_n (pc := 0) dX10_fit_0 rfl rfl ?_
  first | refine z_i2lN (pc := 1) (by with_reducible rfl) dX10_fit_1 (by omega) ?_ | refine z_i2l (pc := 1) dX10_fit_1 rfl ?_
  refine z_lconst (pc := 2) (v := lN 0) dX10_fit_2 rfl ?_
  refine z_ldc2 (pc := 3) (v := lN 2) dX10_fit_3 q_RX10_76 ?_
  refine z_callS (pc := 6) (c_X10_withinI (by omega) (by omega)) dX10_fit_6 l_RX10_68 m_MX10_within s_MX10_within rfl (by omega) rfl (Nat.le_of_ble_eq_true rfl) ?_
  rintro _ _ _ ⟨⟨rfl, hx⟩ | ⟨rfl, hx⟩, rfl, rfl⟩
  · obtain ⟨x, rfl, hx0, hx1⟩ := hx
    try dsimp only [zov, Option.toList, List.cons_append, List.nil_append]
    first | refine z_if_neN (pc := 9) (tgt := 14) (by with_reducible rfl) dX10_fit_9 (by decide) (by omega) (fun hb9 => ?_) (fun hb9 => absurd hb9 (by decide)) | refine z_if_ne (pc := 9) (tgt := 14) dX10_fit_9 (by decide) (fun hb9 => ?_) (fun hb9 => absurd hb9 (by decide))
    · skip
      refine z_iload_n (pc := 14) dX10_fit_14 rfl rfl ?_
      refine z_iconst (pc := 15) (v := nI 2) dX10_fit_15 (by decide) ?_
      first | refine z_icmp_neN (pc := 16) (tgt := 33) (by with_reducible rfl) (by with_reducible rfl) dX10_fit_16 (by decide) (by omega) (by omega) (fun hb16 => ?_) (fun hb16 => ?_) | refine z_icmp_ne (pc := 16) (tgt := 33) dX10_fit_16 (by decide) (fun hb16 => ?_) (fun hb16 => ?_)
      · skip
        refine z_aload_n (pc := 33) dX10_fit_33 rfl rfl ?_
        refine z_iload_n (pc := 34) dX10_fit_34 rfl rfl ?_
        refine z_callV (pc := 35) (c_X10_fits hM hW hB hT hG hx1) dX10_fit_35 l_RX10_174 m_MX10_fits n_MX10_fits e_MX10_fits rfl (by omega) (by assumption) rfl rfl (Nat.le_of_ble_eq_true rfl) ?_
        rintro _ _ _ ⟨⟨m, rfl, hm9, hm, hw, hbT, hbG⟩ | ⟨rfl, hm, hw⟩, hf, hj⟩
        · have hmo := (zfit_p hB hm).1
          try dsimp only [zov, Option.toList, List.cons_append, List.nil_append]
          refine z_iret (pc := 38) dX10_fit_38 rfl ?_
          first
            | exact zPM_same hV (by rw [ffit, zR_n (isR_no hx)])
            | exact zPM_same hV (by rw [ffit, zR_y (by decide) hx1]; exact if_pos ⟨by omega, by omega⟩)
            | exact zPM_now hV (fun x y q1 q2 => hf x y q1 (by omega) (by omega)) (zw2_m hj) hw (bN_tab hb (fun j q => hmo j (by omega)) hbT) hbG (by rw [ffit, zR_y (by decide) hx1]; dsimp only; rw [if_neg (by omega), hm])
            | (have e9 := zPM_now (n := S.n) hV (fun x y q1 q2 => hf x y q1 (by omega) (by omega)) (zw2_m hj) hw hb hG (p := (.int (-6), S)) rfl
               have e8 : ffit S (nI x) = (.int (-6), S) := (by rw [ffit, zR_y (by decide) hx1]; dsimp only; rw [if_neg (by omega), hm])
               rw [e8]; exact e9)
            | fail
        · skip
          try dsimp only [zov, Option.toList, List.cons_append, List.nil_append]
          refine z_iret (pc := 38) dX10_fit_38 rfl ?_
          first
            | exact zPM_same hV (by rw [ffit, zR_n (isR_no hx)])
            | exact zPM_same hV (by rw [ffit, zR_y (by decide) hx1]; exact if_pos ⟨by omega, by omega⟩)
            | exact zPM_now hV (fun x y q1 q2 => hf x y q1 (by omega) (by omega)) (zw2_m hj) hw (bN_tab hb (fun j q => hmo j (by omega)) hbT) hbG (by rw [ffit, zR_y (by decide) hx1]; dsimp only; rw [if_neg (by omega), hm])
            | (have e9 := zPM_now (n := S.n) hV (fun x y q1 q2 => hf x y q1 (by omega) (by omega)) (zw2_m hj) hw hb hG (p := (.int (-6), S)) rfl
               have e8 : ffit S (nI x) = (.int (-6), S) := (by rw [ffit, zR_y (by decide) hx1]; dsimp only; rw [if_neg (by omega), hm])
               rw [e8]; exact e9)
            | fail
      · skip
        refine z_aload_n (pc := 19) dX10_fit_19 rfl rfl ?_
        refine z_getR (pc := 20) dX10_fit_20 f_RX10_11 (by assumption) rfl ?_
        refine z_iconst (pc := 23) (v := nI 2) dX10_fit_23 (by decide) ?_
        refine z_ialoadv (pc := 24) dX10_fit_24 (by assumption) (by with_reducible rfl) (by omega) (by decide) (by first | assumption | exact hW _ (by omega) | rfl) ?_
        first | refine z_if_neN (pc := 25) (tgt := 33) (by with_reducible rfl) dX10_fit_25 (by decide) (by omega) (fun hb25 => ?_) (fun hb25 => ?_) | refine z_if_ne (pc := 25) (tgt := 33) dX10_fit_25 (by decide) (fun hb25 => ?_) (fun hb25 => ?_)
        · skip
          refine z_aload_n (pc := 33) dX10_fit_33 rfl rfl ?_
          refine z_iload_n (pc := 34) dX10_fit_34 rfl rfl ?_
          refine z_callV (pc := 35) (c_X10_fits hM hW hB hT hG hx1) dX10_fit_35 l_RX10_174 m_MX10_fits n_MX10_fits e_MX10_fits rfl (by omega) (by assumption) rfl rfl (Nat.le_of_ble_eq_true rfl) ?_
          rintro _ _ _ ⟨⟨m, rfl, hm9, hm, hw, hbT, hbG⟩ | ⟨rfl, hm, hw⟩, hf, hj⟩
          · have hmo := (zfit_p hB hm).1
            try dsimp only [zov, Option.toList, List.cons_append, List.nil_append]
            refine z_iret (pc := 38) dX10_fit_38 rfl ?_
            first
              | exact zPM_same hV (by rw [ffit, zR_n (isR_no hx)])
              | exact zPM_same hV (by rw [ffit, zR_y (by decide) hx1]; exact if_pos ⟨by omega, by omega⟩)
              | exact zPM_now hV (fun x y q1 q2 => hf x y q1 (by omega) (by omega)) (zw2_m hj) hw (bN_tab hb (fun j q => hmo j (by omega)) hbT) hbG (by rw [ffit, zR_y (by decide) hx1]; dsimp only; rw [if_neg (by omega), hm])
              | (have e9 := zPM_now (n := S.n) hV (fun x y q1 q2 => hf x y q1 (by omega) (by omega)) (zw2_m hj) hw hb hG (p := (.int (-6), S)) rfl
                 have e8 : ffit S (nI x) = (.int (-6), S) := (by rw [ffit, zR_y (by decide) hx1]; dsimp only; rw [if_neg (by omega), hm])
                 rw [e8]; exact e9)
              | fail
          · skip
            try dsimp only [zov, Option.toList, List.cons_append, List.nil_append]
            refine z_iret (pc := 38) dX10_fit_38 rfl ?_
            first
              | exact zPM_same hV (by rw [ffit, zR_n (isR_no hx)])
              | exact zPM_same hV (by rw [ffit, zR_y (by decide) hx1]; exact if_pos ⟨by omega, by omega⟩)
              | exact zPM_now hV (fun x y q1 q2 => hf x y q1 (by omega) (by omega)) (zw2_m hj) hw (bN_tab hb (fun j q => hmo j (by omega)) hbT) hbG (by rw [ffit, zR_y (by decide) hx1]; dsimp only; rw [if_neg (by omega), hm])
              | (have e9 := zPM_now (n := S.n) hV (fun x y q1 q2 => hf x y q1 (by omega) (by omega)) (zw2_m hj) hw hb hG (p := (.int (-6), S)) rfl
                 have e8 : ffit S (nI x) = (.int (-6), S) := (by rw [ffit, zR_y (by decide) hx1]; dsimp only; rw [if_neg (by omega), hm])
                 rw [e8]; exact e9)
              | fail
        · skip
          refine z_bipush (pc := 28) (v := -3) dX10_fit_28 (by decide) ?_
          refine z_goto (pc := 30) (tgt := 38) dX10_fit_30 (by decide) ?_
          refine z_iret (pc := 38) dX10_fit_38 rfl ?_
          first
            | exact zPM_same hV (by rw [ffit, zR_n (isR_no hx)])
            | exact zPM_same hV (by rw [ffit, zR_y (by decide) hx1]; exact if_pos ⟨by omega, by omega⟩)
            | exact zPM_now hV (fun x y q1 q2 => hf x y q1 (by omega) (by omega)) (zw2_m hj) hw (bN_tab hb (fun j q => hmo j (by omega)) hbT) hbG (by rw [ffit, zR_y (by decide) hx1]; dsimp only; rw [if_neg (by omega), hm])
            | (have e9 := zPM_now (n := S.n) hV (fun x y q1 q2 => hf x y q1 (by omega) (by omega)) (zw2_m hj) hw hb hG (p := (.int (-6), S)) rfl
               have e8 : ffit S (nI x) = (.int (-6), S) := (by rw [ffit, zR_y (by decide) hx1]; dsimp only; rw [if_neg (by omega), hm])
               rw [e8]; exact e9)
            | fail
  · skip
    try dsimp only [zov, Option.toList, List.cons_append, List.nil_append]
    first | refine z_if_neN (pc := 9) (tgt := 14) (by with_reducible rfl) dX10_fit_9 (by decide) (by omega) (fun hb9 => absurd hb9 (by decide)) (fun hb9 => ?_) | refine z_if_ne (pc := 9) (tgt := 14) dX10_fit_9 (by decide) (fun hb9 => absurd hb9 (by decide)) (fun hb9 => ?_)
    · skip
      refine z_iconst (pc := 12) (v := -1) dX10_fit_12 (by decide) ?_
      refine z_iret (pc := 13) dX10_fit_13 rfl ?_
      first
        | exact zPM_same hV (by rw [ffit, zR_n (isR_no hx)])
        | exact zPM_same hV (by rw [ffit, zR_y (by decide) hx1]; exact if_pos ⟨by omega, by omega⟩)
        | exact zPM_now hV (fun x y q1 q2 => hf x y q1 (by omega) (by omega)) (zw2_m hj) hw (bN_tab hb (fun j q => hmo j (by omega)) hbT) hbG (by rw [ffit, zR_y (by decide) hx1]; dsimp only; rw [if_neg (by omega), hm])
        | (have e9 := zPM_now (n := S.n) hV (fun x y q1 q2 => hf x y q1 (by omega) (by omega)) (zw2_m hj) hw hb hG (p := (.int (-6), S)) rfl
           have e8 : ffit S (nI x) = (.int (-6), S) := (by rw [ffit, zR_y (by decide) hx1]; dsimp only; rw [if_neg (by omega), hm])
           rw [e8]; exact e9)
        | fail
/-- a table that came of n by fits -/
def zkin (n a : Nat → Nat) : Prop := (∀ j, (j < 34 ∨ 52 ≤ j) → a j = n j) ∧ (∀ k, k < 9 → ¬ (k / 3 < n 0 ∧ k % 3 < n 1) → a (34 + k) = n (34 + k) ∧ a (43 + k) = n (43 + k)) ∧ bT a ∧ bG a
theorem zkin_r {n : Nat → Nat} (hT : bT n) (hG : bG n) : zkin n n := ⟨fun _ _ => rfl, fun _ _ _ => ⟨rfl, rfl⟩, hT, hG⟩
theorem zkin_fit {n a b : Nat → Nat} {w : Nat} (h : zkin n a) (hB : bS a) (e : zfit a w a = some b) (hT : bT b) (hG : bG b) : zkin n b := by
  have ho := zfit_p hB e
  refine ⟨fun j hj => (ho.1 j hj).trans (h.1 j hj), fun k hk hn => ?_, hT, hG⟩
  have h0 := h.1 0 (by omega)
  have h1 := h.1 1 (by omega)
  have h2 := ho.2 k hk (by rw [h0, h1]; exact hn)
  have h3 := h.2.1 k hk hn
  exact ⟨h2.1.trans h3.1, h2.2.trans h3.2⟩
theorem zkin_bS {n a : Nat → Nat} (h : zkin n a) (hB : bS n) : bS a := bS_to hB (fun k hk => h.1 k (by omega))
theorem zdf_18 {n b : Nat → Nat} (h : zkin n b) : zdf b n (zl (n 0) (n 1) 0) = 0 ↔ ∀ j, j < 18 → n (34 + j) = b (34 + j) := by
  rw [zdf_0]
  constructor
  · intro h1 j hj
    have h2 : ∀ k, k < 9 → b (34 + k) = n (34 + k) ∧ b (43 + k) = n (43 + k) := fun k hk => by
      by_cases q : k / 3 < n 0 ∧ k % 3 < n 1
      · exact h1 k (zl_of hk q)
      · exact h.2.1 k hk q
    by_cases q : j < 9
    · exact (h2 j q).1.symm
    · have := (h2 (j - 9) (by omega)).2
      rw [show 43 + (j - 9) = 34 + j by omega] at this
      exact this.symm
  · intro h1 k hk
    have hk9 := (zl_mem hk (by omega)).1
    have e := h1 (9 + k) (by omega)
    rw [show 34 + (9 + k) = 43 + k by omega] at e
    exact ⟨(h1 k (by omega)).symm, e.symm⟩
theorem bT18 {n : Nat → Nat} (h : bT n) {k : Nat} (hk : k < 18) : n (34 + k) ≤ 999999 := by
  by_cases q : k < 9
  · exact (h k q).1
  · have := (h (k - 9) (by omega)).2.2
    rw [show 43 + (k - 9) = 34 + k by omega] at this
    exact this
theorem vW_back {I : zI} {n b : Nat → Nat} (hW : vW I b) (hk : ∀ j, (j < 34 ∨ 52 ≤ j) → b j = n j) (hA : ∀ j, j < 18 → I 87 j = nI (n (34 + j))) : vW (zcp I 87 0 80 34 18) n := by
  intro j hj
  rw [zcp_b]
  dsimp only
  by_cases q : 34 ≤ j ∧ j < 34 + 18
  · rw [if_pos q, hA _ (by omega), show 34 + (0 + (j - 34)) = j by omega]
  · rw [if_neg q, ← hk j (by omega)]; exact hW j hj
theorem zwf_n {f k : Nat} {a : Nat → Nat} (h : zfit a k a = none) : zwf (f + 1) k a = none := by rw [zwf, h]
theorem zwf_s {f k : Nat} {a b : Nat → Nat} (h : zfit a k a = some b) : zwf (f + 1) k a = zwf f (k + 1) b := by rw [zwf, h]
set_option maxHeartbeats 2000000 in
set_option maxRecDepth 20000 in
theorem l0_X10_goesRound {lay : List zL} {Q : Value → zI → zJ → Prop} {a : Nat → Nat} {d y : Nat} {I : zI} {J : zJ} (hM : kM lay) (hW : vW I a) (h2 : a 2 ≤ 1) (hy : y ≤ 3) (K : Z lay MX10_goesRound d 58 [.ref 79, .int (nI 0), .int (nI y), .null] [] I J Q) : Z lay MX10_goesRound d 20 [.ref 79, .int (nI 0), .int (nI y), .null] [] I J Q := by
  obtain ⟨mo, m80, m81, m82, m83, m84, m85, m86, m87, m88, m89, m90, m91, m92, m93, m94, m95, m96⟩ := id hM
  refine z_iload_n (pc := 20) dX10_goesRound_20 rfl rfl ?_
  refine z_iconst (pc := 21) (v := nI 1) dX10_goesRound_21 (by decide) ?_
  refine z_aload_n (pc := 22) dX10_goesRound_22 rfl rfl ?_
  refine z_getR (pc := 23) dX10_goesRound_23 f_RX10_11 (by assumption) rfl ?_
  refine z_iconst (pc := 26) (v := nI 2) dX10_goesRound_26 (by decide) ?_
  refine z_ialoadv (pc := 27) dX10_goesRound_27 (by assumption) (by with_reducible rfl) (by omega) (by decide) (by first | assumption | exact hW _ (by omega) | rfl) ?_
  first | refine z_iaddN (pc := 28) (by with_reducible rfl) (by with_reducible rfl) dX10_goesRound_28 ?_ | refine z_iadd (pc := 28) dX10_goesRound_28 ?_
  first | refine z_icmp_gtN (pc := 29) (tgt := 58) (by with_reducible rfl) (by with_reducible rfl) dX10_goesRound_29 (by decide) (by omega) (by omega) (fun hb29 => ?_) (fun hb29 => ?_) | refine z_icmp_gt (pc := 29) (tgt := 58) dX10_goesRound_29 (by decide) (fun hb29 => ?_) (fun hb29 => ?_)
  · skip
    exact K
  · skip
    refine z_iload_n (pc := 32) dX10_goesRound_32 rfl rfl ?_
    first | refine z_if_eqN (pc := 33) (tgt := 58) (by with_reducible rfl) dX10_goesRound_33 (by decide) (by omega) (fun hb33 => ?_) (fun hb33 => ?_) | refine z_if_eq (pc := 33) (tgt := 58) dX10_goesRound_33 (by decide) (fun hb33 => ?_) (fun hb33 => ?_)
    · skip
      exact K
    · skip
      exact absurd rfl hb33
set_option maxHeartbeats 2000000 in
set_option maxRecDepth 20000 in
theorem l_X10_goesRound {lay : List zL} {Q : Value → zI → zJ → Prop} {n : Nat → Nat} {d : Nat} {I0 : zI} {J0 : zJ} (hM : kM lay) (hB : bS n) : ∀ (f k : Nat) (a : Nat → Nat) (I : zI) (J : zJ), k + f = 2 + n 2 → vW I a → zkin n a → zf3 I0 I → zw2 J0 J → (∀ b I' J', zwf f k a = some b → vW I' b → zkin n b → zf3 I0 I' → zw2 J0 J' → Z lay MX10_goesRound (d + 6) 58 [.ref 79, .int (nI 1), .int (nI (2 + n 2)), .null] [] I' J' Q) → (∀ b y I' J', zwf f k a = none → vW I' b → zkin n b → zf3 I0 I' → zw2 J0 J' → Z lay MX10_goesRound (d + 6) 58 [.ref 79, .int (nI 0), .int (nI y), .null] [] I' J' Q) → Z lay MX10_goesRound (d + 6) 20 [.ref 79, .int (nI 1), .int (nI k), .null] [] I J Q := by
  intro f
  induction f with
  | zero =>
    intro k a I J hm hW hin hf hj hy hn
    have e2 := hin.1 2 (by omega)
    have b5 := hB.2.2.2.2.1
    obtain rfl : k = 2 + n 2 := (by omega)
    obtain ⟨mo, m80, m81, m82, m83, m84, m85, m86, m87, m88, m89, m90, m91, m92, m93, m94, m95, m96⟩ := id hM
    refine z_iload_n (pc := 20) dX10_goesRound_20 rfl rfl ?_
    refine z_iconst (pc := 21) (v := nI 1) dX10_goesRound_21 (by decide) ?_
    refine z_aload_n (pc := 22) dX10_goesRound_22 rfl rfl ?_
    refine z_getR (pc := 23) dX10_goesRound_23 f_RX10_11 (by assumption) rfl ?_
    refine z_iconst (pc := 26) (v := nI 2) dX10_goesRound_26 (by decide) ?_
    refine z_ialoadv (pc := 27) dX10_goesRound_27 (by assumption) (by with_reducible rfl) (by omega) (by decide) (by first | assumption | exact hW _ (by omega) | rfl) ?_
    first | refine z_iaddN (pc := 28) (by with_reducible rfl) (by with_reducible rfl) dX10_goesRound_28 ?_ | refine z_iadd (pc := 28) dX10_goesRound_28 ?_
    first | refine z_icmp_gtN (pc := 29) (tgt := 58) (by with_reducible rfl) (by with_reducible rfl) dX10_goesRound_29 (by decide) (by omega) (by omega) (fun hb29 => ?_) (fun hb29 => absurd hb29 (by omega)) | refine z_icmp_gt (pc := 29) (tgt := 58) dX10_goesRound_29 (by decide) (fun hb29 => ?_) (fun hb29 => absurd hb29 (by omega))
    · skip
      exact hy a I J rfl hW hin hf hj
  | succ f ih =>
    intro k a I J hm hW hin hf hj hy hn
    have e2 := hin.1 2 (by omega)
    have b5 := hB.2.2.2.2.1
    have hBa := zkin_bS hin hB
    have hw2 : k ≤ 2 := (by omega)
    obtain ⟨mo, m80, m81, m82, m83, m84, m85, m86, m87, m88, m89, m90, m91, m92, m93, m94, m95, m96⟩ := id hM
    refine z_iload_n (pc := 20) dX10_goesRound_20 rfl rfl ?_
    refine z_iconst (pc := 21) (v := nI 1) dX10_goesRound_21 (by decide) ?_
    refine z_aload_n (pc := 22) dX10_goesRound_22 rfl rfl ?_
    refine z_getR (pc := 23) dX10_goesRound_23 f_RX10_11 (by assumption) rfl ?_
    refine z_iconst (pc := 26) (v := nI 2) dX10_goesRound_26 (by decide) ?_
    refine z_ialoadv (pc := 27) dX10_goesRound_27 (by assumption) (by with_reducible rfl) (by omega) (by decide) (by first | assumption | exact hW _ (by omega) | rfl) ?_
    first | refine z_iaddN (pc := 28) (by with_reducible rfl) (by with_reducible rfl) dX10_goesRound_28 ?_ | refine z_iadd (pc := 28) dX10_goesRound_28 ?_
    first | refine z_icmp_gtN (pc := 29) (tgt := 58) (by with_reducible rfl) (by with_reducible rfl) dX10_goesRound_29 (by decide) (by omega) (by omega) (fun hb29 => absurd hb29 (by omega)) (fun hb29 => ?_) | refine z_icmp_gt (pc := 29) (tgt := 58) dX10_goesRound_29 (by decide) (fun hb29 => absurd hb29 (by omega)) (fun hb29 => ?_)
    · skip
      refine z_iload_n (pc := 32) dX10_goesRound_32 rfl rfl ?_
      first | refine z_if_eqN (pc := 33) (tgt := 58) (by with_reducible rfl) dX10_goesRound_33 (by decide) (by omega) (fun hb33 => absurd hb33 (by decide)) (fun hb33 => ?_) | refine z_if_eq (pc := 33) (tgt := 58) dX10_goesRound_33 (by decide) (fun hb33 => absurd hb33 (by decide)) (fun hb33 => ?_)
      · skip
        refine z_aload_n (pc := 36) dX10_goesRound_36 rfl rfl ?_
        refine z_iload_n (pc := 37) dX10_goesRound_37 rfl rfl ?_
        refine z_callV (pc := 38) (c_X10_fits hM hW hBa hin.2.2.1 hin.2.2.2 hw2) dX10_goesRound_38 l_RX10_174 m_MX10_fits n_MX10_fits e_MX10_fits rfl (by omega) (by assumption) rfl rfl (Nat.le_of_ble_eq_true rfl) ?_
        rintro _ _ _ ⟨⟨m, rfl, hm9, hm1, hw, hbT, hbG⟩ | ⟨rfl, hm1, hw⟩, hf1, hj1⟩
        · skip
          try dsimp only [zov, Option.toList, List.cons_append, List.nil_append]
          refine z_bipush (pc := 41) (v := -6) dX10_goesRound_41 (by decide) ?_
          first | refine z_icmp_eqN (pc := 43) (tgt := 50) (by with_reducible rfl) (by with_reducible rfl) dX10_goesRound_43 (by decide) (by omega) (by omega) (fun hb43 => ?_) (fun hb43 => ?_) | refine z_icmp_eq (pc := 43) (tgt := 50) dX10_goesRound_43 (by decide) (fun hb43 => ?_) (fun hb43 => ?_)
          · skip
            refine z_iconst (pc := 50) (v := nI 0) dX10_goesRound_50 (by decide) ?_
            refine z_istore_n (pc := 51) dX10_goesRound_51 rfl (by decide) rfl ?_
            try dsimp only [zst1, zst2, zk]
            first | refine z_iincN (pc := 52) (c := 1) dX10_goesRound_52 rfl (by with_reducible rfl) (by decide) (by decide) rfl ?_ | refine z_iinc (pc := 52) dX10_goesRound_52 rfl rfl (by decide) rfl ?_
            try dsimp only [zst1, zst2, zk]
            refine z_goto (pc := 55) (tgt := 20) dX10_goesRound_55 (by decide) ?_
            first
            | exact absurd hb43 (nI_n6 (by omega))
            | exact absurd rfl hb43
            | exact ih (k + 1) m _ _ (by omega) hw (zkin_fit hin hBa hm1 hbT hbG) (zf3_t hf hf1) (zw2_t hj hj1) (fun b I' J' q1 => hy b I' J' (by rw [zwf_s hm1]; exact q1)) (fun b y I' J' q1 => hn b y I' J' (by rw [zwf_s hm1]; exact q1))
            | exact l0_X10_goesRound hM hw (by omega) (by omega) (hn a (k + 1) _ _ (zwf_n hm1) hw hin (zf3_t hf hf1) (zw2_t hj hj1))
            | fail
          · skip
            refine z_iconst (pc := 46) (v := nI 1) dX10_goesRound_46 (by decide) ?_
            refine z_goto (pc := 47) (tgt := 51) dX10_goesRound_47 (by decide) ?_
            refine z_istore_n (pc := 51) dX10_goesRound_51 rfl (by decide) rfl ?_
            try dsimp only [zst1, zst2, zk]
            first | refine z_iincN (pc := 52) (c := 1) dX10_goesRound_52 rfl (by with_reducible rfl) (by decide) (by decide) rfl ?_ | refine z_iinc (pc := 52) dX10_goesRound_52 rfl rfl (by decide) rfl ?_
            try dsimp only [zst1, zst2, zk]
            refine z_goto (pc := 55) (tgt := 20) dX10_goesRound_55 (by decide) ?_
            first
            | exact absurd hb43 (nI_n6 (by omega))
            | exact absurd rfl hb43
            | exact ih (k + 1) m _ _ (by omega) hw (zkin_fit hin hBa hm1 hbT hbG) (zf3_t hf hf1) (zw2_t hj hj1) (fun b I' J' q1 => hy b I' J' (by rw [zwf_s hm1]; exact q1)) (fun b y I' J' q1 => hn b y I' J' (by rw [zwf_s hm1]; exact q1))
            | exact l0_X10_goesRound hM hw (by omega) (by omega) (hn a (k + 1) _ _ (zwf_n hm1) hw hin (zf3_t hf hf1) (zw2_t hj hj1))
            | fail
        · skip
          try dsimp only [zov, Option.toList, List.cons_append, List.nil_append]
          refine z_bipush (pc := 41) (v := -6) dX10_goesRound_41 (by decide) ?_
          first | refine z_icmp_eqN (pc := 43) (tgt := 50) (by with_reducible rfl) (by with_reducible rfl) dX10_goesRound_43 (by decide) (by omega) (by omega) (fun hb43 => ?_) (fun hb43 => ?_) | refine z_icmp_eq (pc := 43) (tgt := 50) dX10_goesRound_43 (by decide) (fun hb43 => ?_) (fun hb43 => ?_)
          · skip
            refine z_iconst (pc := 50) (v := nI 0) dX10_goesRound_50 (by decide) ?_
            refine z_istore_n (pc := 51) dX10_goesRound_51 rfl (by decide) rfl ?_
            try dsimp only [zst1, zst2, zk]
            first | refine z_iincN (pc := 52) (c := 1) dX10_goesRound_52 rfl (by with_reducible rfl) (by decide) (by decide) rfl ?_ | refine z_iinc (pc := 52) dX10_goesRound_52 rfl rfl (by decide) rfl ?_
            try dsimp only [zst1, zst2, zk]
            refine z_goto (pc := 55) (tgt := 20) dX10_goesRound_55 (by decide) ?_
            first
            | exact absurd hb43 (nI_n6 (by omega))
            | exact absurd rfl hb43
            | exact ih (k + 1) m _ _ (by omega) hw (zkin_fit hin hBa hm1 hbT hbG) (zf3_t hf hf1) (zw2_t hj hj1) (fun b I' J' q1 => hy b I' J' (by rw [zwf_s hm1]; exact q1)) (fun b y I' J' q1 => hn b y I' J' (by rw [zwf_s hm1]; exact q1))
            | exact l0_X10_goesRound hM hw (by omega) (by omega) (hn a (k + 1) _ _ (zwf_n hm1) hw hin (zf3_t hf hf1) (zw2_t hj hj1))
            | fail
          · skip
            refine z_iconst (pc := 46) (v := nI 1) dX10_goesRound_46 (by decide) ?_
            refine z_goto (pc := 47) (tgt := 51) dX10_goesRound_47 (by decide) ?_
            refine z_istore_n (pc := 51) dX10_goesRound_51 rfl (by decide) rfl ?_
            try dsimp only [zst1, zst2, zk]
            first | refine z_iincN (pc := 52) (c := 1) dX10_goesRound_52 rfl (by with_reducible rfl) (by decide) (by decide) rfl ?_ | refine z_iinc (pc := 52) dX10_goesRound_52 rfl rfl (by decide) rfl ?_
            try dsimp only [zst1, zst2, zk]
            refine z_goto (pc := 55) (tgt := 20) dX10_goesRound_55 (by decide) ?_
            first
            | exact absurd hb43 (nI_n6 (by omega))
            | exact absurd rfl hb43
            | exact ih (k + 1) m _ _ (by omega) hw (zkin_fit hin hBa hm1 hbT hbG) (zf3_t hf hf1) (zw2_t hj hj1) (fun b I' J' q1 => hy b I' J' (by rw [zwf_s hm1]; exact q1)) (fun b y I' J' q1 => hn b y I' J' (by rw [zwf_s hm1]; exact q1))
            | exact l0_X10_goesRound hM hw (by omega) (by omega) (hn a (k + 1) _ _ (zwf_n hm1) hw hin (zf3_t hf hf1) (zw2_t hj hj1))
            | fail
set_option maxHeartbeats 2000000 in
set_option maxRecDepth 20000 in
theorem l2_X10_goesRound {lay : List zL} {Q : Value → zI → zJ → Prop} {n b : Nat → Nat} {d s : Nat} {I : zI} {J : zJ} (hM : kM lay) (hW : vW I b) (hT : bT n) (hTb : bT b) (hA : ∀ j, j < 18 → I 87 j = nI (n (34 + j))) (K : ∀ o, o ≤ 1 → (o = 0 ↔ ∀ j, j < 18 → n (34 + j) = b (34 + j)) → Z lay MX10_goesRound d 102 [.ref 79, .int (nI s), .int (nI o), .int (nI 18)] [] I J Q) : ∀ (f k o : Nat), k + f = 18 → o ≤ 1 → (o = 0 ↔ ∀ j, j < k → n (34 + j) = b (34 + j)) → Z lay MX10_goesRound d 62 [.ref 79, .int (nI s), .int (nI o), .int (nI k)] [] I J Q := by
  intro f
  induction f with
  | zero =>
    intro k o hm ho hi
    obtain rfl : k = 18 := (by omega)
    obtain ⟨mo, m80, m81, m82, m83, m84, m85, m86, m87, m88, m89, m90, m91, m92, m93, m94, m95, m96⟩ := id hM
    refine z_iload_n (pc := 62) dX10_goesRound_62 rfl rfl ?_
    refine z_bipush (pc := 63) (v := nI 18) dX10_goesRound_63 (by decide) ?_
    first | refine z_icmp_geN (pc := 65) (tgt := 102) (by with_reducible rfl) (by with_reducible rfl) dX10_goesRound_65 (by decide) (by omega) (by omega) (fun hb65 => ?_) (fun hb65 => absurd hb65 (by omega)) | refine z_icmp_ge (pc := 65) (tgt := 102) dX10_goesRound_65 (by decide) (fun hb65 => ?_) (fun hb65 => absurd hb65 (by omega))
    · skip
      exact K o ho hi
  | succ f ih =>
    intro k o hm ho hi
    have t1 := bT18 hT (show k < 18 by omega)
    have t2 := bT18 hTb (show k < 18 by omega)
    have a1 := hA k (by omega)
    obtain ⟨mo, m80, m81, m82, m83, m84, m85, m86, m87, m88, m89, m90, m91, m92, m93, m94, m95, m96⟩ := id hM
    refine z_iload_n (pc := 62) dX10_goesRound_62 rfl rfl ?_
    refine z_bipush (pc := 63) (v := nI 18) dX10_goesRound_63 (by decide) ?_
    first | refine z_icmp_geN (pc := 65) (tgt := 102) (by with_reducible rfl) (by with_reducible rfl) dX10_goesRound_65 (by decide) (by omega) (by omega) (fun hb65 => absurd hb65 (by omega)) (fun hb65 => ?_) | refine z_icmp_ge (pc := 65) (tgt := 102) dX10_goesRound_65 (by decide) (fun hb65 => absurd hb65 (by omega)) (fun hb65 => ?_)
    · skip
      refine z_iload_n (pc := 68) dX10_goesRound_68 rfl rfl ?_
      first | refine z_if_neN (pc := 69) (tgt := 90) (by with_reducible rfl) dX10_goesRound_69 (by decide) (by omega) (fun hb69 => ?_) (fun hb69 => ?_) | refine z_if_ne (pc := 69) (tgt := 90) dX10_goesRound_69 (by decide) (fun hb69 => ?_) (fun hb69 => ?_)
      · skip
        refine z_iconst (pc := 90) (v := nI 1) dX10_goesRound_90 (by decide) ?_
        refine z_goto (pc := 91) (tgt := 95) dX10_goesRound_91 (by decide) ?_
        refine z_istore_n (pc := 95) dX10_goesRound_95 rfl (by decide) rfl ?_
        try dsimp only [zst1, zst2, zk]
        first | refine z_iincN (pc := 96) (c := 1) dX10_goesRound_96 rfl (by with_reducible rfl) (by decide) (by decide) rfl ?_ | refine z_iinc (pc := 96) dX10_goesRound_96 rfl rfl (by decide) rfl ?_
        try dsimp only [zst1, zst2, zk]
        refine z_goto (pc := 99) (tgt := 62) dX10_goesRound_99 (by decide) ?_
        first
        | exact ih (k + 1) 0 (by omega) (by omega) ⟨fun _ j h3 => (by
            by_cases e : j = k
            · rw [e]; exact hb87
            · exact (hi.mp hb69) j (by omega)), fun _ => rfl⟩
        | exact ih (k + 1) 1 (by omega) (by omega) ⟨fun h => absurd h (by decide), fun h => absurd (h k (by omega)) hb87⟩
        | exact ih (k + 1) 1 (by omega) (by omega) ⟨fun h => absurd h (by decide), fun h => absurd (hi.mpr (fun j h3 => h j (by omega))) hb69⟩
        | fail
      · skip
        refine z_aload_n (pc := 72) dX10_goesRound_72 rfl rfl ?_
        refine z_getR (pc := 73) dX10_goesRound_73 f_RX10_33 (by assumption) rfl ?_
        refine z_iload_n (pc := 76) dX10_goesRound_76 rfl rfl ?_
        refine z_ialoadv (pc := 77) dX10_goesRound_77 (by assumption) (by with_reducible rfl) (by omega) (by decide) (by first | assumption | exact hW _ (by omega) | rfl) ?_
        refine z_aload_n (pc := 78) dX10_goesRound_78 rfl rfl ?_
        refine z_getR (pc := 79) dX10_goesRound_79 f_RX10_11 (by assumption) rfl ?_
        refine z_bipush (pc := 82) (v := nI 34) dX10_goesRound_82 (by decide) ?_
        refine z_iload_n (pc := 84) dX10_goesRound_84 rfl rfl ?_
        first | refine z_iaddN (pc := 85) (by with_reducible rfl) (by with_reducible rfl) dX10_goesRound_85 ?_ | refine z_iadd (pc := 85) dX10_goesRound_85 ?_
        refine z_ialoadv (pc := 86) dX10_goesRound_86 (by assumption) (by with_reducible rfl) (by omega) (by decide) (by first | assumption | exact hW _ (by omega) | rfl) ?_
        first | refine z_icmp_eqN (pc := 87) (tgt := 94) (by with_reducible rfl) (by with_reducible rfl) dX10_goesRound_87 (by decide) (by omega) (by omega) (fun hb87 => ?_) (fun hb87 => ?_) | refine z_icmp_eq (pc := 87) (tgt := 94) dX10_goesRound_87 (by decide) (fun hb87 => ?_) (fun hb87 => ?_)
        · skip
          refine z_iconst (pc := 94) (v := nI 0) dX10_goesRound_94 (by decide) ?_
          refine z_istore_n (pc := 95) dX10_goesRound_95 rfl (by decide) rfl ?_
          try dsimp only [zst1, zst2, zk]
          first | refine z_iincN (pc := 96) (c := 1) dX10_goesRound_96 rfl (by with_reducible rfl) (by decide) (by decide) rfl ?_ | refine z_iinc (pc := 96) dX10_goesRound_96 rfl rfl (by decide) rfl ?_
          try dsimp only [zst1, zst2, zk]
          refine z_goto (pc := 99) (tgt := 62) dX10_goesRound_99 (by decide) ?_
          first
          | exact ih (k + 1) 0 (by omega) (by omega) ⟨fun _ j h3 => (by
              by_cases e : j = k
              · rw [e]; exact hb87
              · exact (hi.mp hb69) j (by omega)), fun _ => rfl⟩
          | exact ih (k + 1) 1 (by omega) (by omega) ⟨fun h => absurd h (by decide), fun h => absurd (h k (by omega)) hb87⟩
          | exact ih (k + 1) 1 (by omega) (by omega) ⟨fun h => absurd h (by decide), fun h => absurd (hi.mpr (fun j h3 => h j (by omega))) hb69⟩
          | fail
        · skip
          refine z_iconst (pc := 90) (v := nI 1) dX10_goesRound_90 (by decide) ?_
          refine z_goto (pc := 91) (tgt := 95) dX10_goesRound_91 (by decide) ?_
          refine z_istore_n (pc := 95) dX10_goesRound_95 rfl (by decide) rfl ?_
          try dsimp only [zst1, zst2, zk]
          first | refine z_iincN (pc := 96) (c := 1) dX10_goesRound_96 rfl (by with_reducible rfl) (by decide) (by decide) rfl ?_ | refine z_iinc (pc := 96) dX10_goesRound_96 rfl rfl (by decide) rfl ?_
          try dsimp only [zst1, zst2, zk]
          refine z_goto (pc := 99) (tgt := 62) dX10_goesRound_99 (by decide) ?_
          first
          | exact ih (k + 1) 0 (by omega) (by omega) ⟨fun _ j h3 => (by
              by_cases e : j = k
              · rw [e]; exact hb87
              · exact (hi.mp hb69) j (by omega)), fun _ => rfl⟩
          | exact ih (k + 1) 1 (by omega) (by omega) ⟨fun h => absurd h (by decide), fun h => absurd (h k (by omega)) hb87⟩
          | exact ih (k + 1) 1 (by omega) (by omega) ⟨fun h => absurd h (by decide), fun h => absurd (hi.mpr (fun j h3 => h j (by omega))) hb69⟩
          | fail
def zf4 (I I' : zI) : Prop := ∀ x y, x ≠ 80 → x ≠ 85 → x ≠ 86 → x ≠ 87 → I' x y = I x y
theorem zrd_y {n b : Nat → Nat} (hB : bS n) (h : zwf (2 + n 2) 0 n = some b) (h0 : ¬ zdf b n (zl (n 0) (n 1) 0) = 0) : zrd n = some (zset1 b 3 (n 3 + 1)) := by
  rw [zrd_wf hB, h]
  exact if_neg h0
theorem zrd_0 {n b : Nat → Nat} (hB : bS n) (h : zwf (2 + n 2) 0 n = some b) (h0 : zdf b n (zl (n 0) (n 1) 0) = 0) : zrd n = none := by
  rw [zrd_wf hB, h]
  exact if_pos h0
theorem zrd_n {n : Nat → Nat} (hB : bS n) (h : zwf (2 + n 2) 0 n = none) : zrd n = none := by rw [zrd_wf hB, h]
/-- what a round leaves -/
def zgr (n m : Nat → Nat) : Prop := (∀ j, j ≠ 3 → (j < 34 ∨ 52 ≤ j) → m j = n j) ∧ bT m ∧ bG m
theorem zgr_in {n b : Nat → Nat} {x : Nat} (h : zkin n b) : zgr n (zset1 b 3 x) := ⟨fun j h3 hj => by rw [zset1_o h3]; exact h.1 j hj, zset1_bT h.2.2.1 (by omega), zset1_bG h.2.2.2 (by omega)⟩
set_option maxHeartbeats 2000000 in
set_option maxRecDepth 20000 in
theorem c_X10_goesRound {lay : List zL} {I : zI} {J : zJ} {n : Nat → Nat} (hM : kM lay) (hW : vW I n) (hB : bS n) (hT : bT n) (hG : bG n) : zMet lay MX10_goesRound 6 [.ref 79] I J (fun r I' J' => ((r = .int (nI 1) ∧ ∃ m, zrd n = some m ∧ vW I' m ∧ zgr n m) ∨ (r = .int (nI 0) ∧ zrd n = none ∧ vW I' n)) ∧ zf4 I I' ∧ zw2 J J') := by
  refine zMet_of (t := MX10_goesRound) (ls := [.ref 79, .null, .null, .null]) (by decide +kernel) (Nat.le_of_ble_eq_true rfl) rfl ?_
  obtain ⟨mo, m80, m81, m82, m83, m84, m85, m86, m87, m88, m89, m90, m91, m92, m93, m94, m95, m96⟩ := id hM
  refine z_aload_n (pc := 0) dX10_goesRound_0 rfl rfl ?_
  refine z_getR (pc := 1) dX10_goesRound_1 f_RX10_11 (by assumption) rfl ?_
  refine z_bipush (pc := 4) (v := nI 34) dX10_goesRound_4 (by decide) ?_
  refine z_aload_n (pc := 6) dX10_goesRound_6 rfl rfl ?_
  refine z_getR (pc := 7) dX10_goesRound_7 f_RX10_33 (by assumption) rfl ?_
  refine z_iconst (pc := 10) (v := nI 0) dX10_goesRound_10 (by decide) ?_
  refine z_bipush (pc := 11) (v := nI 18) dX10_goesRound_11 (by decide) ?_
  first | refine z_copyI (pc := 13) dX10_goesRound_13 lc_RX10_177 (by assumption) (by assumption) rfl rfl rfl (by omega) (by omega) (by decide) (by decide) (by omega) (Nat.le_of_ble_eq_true rfl) ?_ | refine z_copyJ (pc := 13) dX10_goesRound_13 lc_RX10_177 (by assumption) (by assumption) rfl rfl rfl (by omega) (by omega) (by decide) (by decide) (by omega) (Nat.le_of_ble_eq_true rfl) ?_
  refine z_iconst (pc := 16) (v := nI 1) dX10_goesRound_16 (by decide) ?_
  refine z_istore_n (pc := 17) dX10_goesRound_17 rfl (by decide) rfl ?_
  try dsimp only [zst1, zst2, zk]
  refine z_iconst (pc := 18) (v := nI 0) dX10_goesRound_18 (by decide) ?_
  refine z_istore_n (pc := 19) dX10_goesRound_19 rfl (by decide) rfl ?_
  try dsimp only [zst1, zst2, zk]
  refine l_X10_goesRound (d := 0) hM hB (2 + n 2) 0 n _ _ (by omega) (fun j hj => (by rw [zcp_o (by omega)]; exact hW j hj)) (zkin_r hT hG) (fun _ _ _ _ _ => rfl) (zw2_r _) (fun b I1 J1 q1 q2 q3 q4 q5 => ?_) (fun b y I1 J1 q1 q2 q3 q4 q5 => ?_)
  · skip
    have hA : ∀ j, j < 18 → I1 87 j = nI (n (34 + j)) := (fun j hj => (q4 87 j (by omega) (by omega) (by omega)).trans (by rw [zcp_b]; dsimp only; rw [if_pos (by omega), show 34 + (j - 0) = 34 + j by omega]; exact hW _ (by omega)))
    refine z_iconst (pc := 58) (v := nI 0) dX10_goesRound_58 (by decide) ?_
    refine z_istore_n (pc := 59) dX10_goesRound_59 rfl (by decide) rfl ?_
    try dsimp only [zst1, zst2, zk]
    refine z_iconst (pc := 60) (v := nI 0) dX10_goesRound_60 (by decide) ?_
    refine z_istore_n (pc := 61) dX10_goesRound_61 rfl (by decide) rfl ?_
    try dsimp only [zst1, zst2, zk]
    refine l2_X10_goesRound hM q2 hT q3.2.2.1 hA (fun o ho hi => ?_) 18 0 0 rfl (by omega) ⟨fun _ j h => absurd h (by omega), fun _ => rfl⟩
    refine z_iload_n (pc := 102) dX10_goesRound_102 rfl rfl ?_
    first | refine z_if_eqN (pc := 103) (tgt := 110) (by with_reducible rfl) dX10_goesRound_103 (by decide) (by omega) (fun hb103 => ?_) (fun hb103 => ?_) | refine z_if_eq (pc := 103) (tgt := 110) dX10_goesRound_103 (by decide) (fun hb103 => ?_) (fun hb103 => ?_)
    · skip
      refine z_aload_n (pc := 110) dX10_goesRound_110 rfl rfl ?_
      refine z_getR (pc := 111) dX10_goesRound_111 f_RX10_33 (by assumption) rfl ?_
      refine z_iconst (pc := 114) (v := nI 0) dX10_goesRound_114 (by decide) ?_
      refine z_aload_n (pc := 115) dX10_goesRound_115 rfl rfl ?_
      refine z_getR (pc := 116) dX10_goesRound_116 f_RX10_11 (by assumption) rfl ?_
      refine z_bipush (pc := 119) (v := nI 34) dX10_goesRound_119 (by decide) ?_
      refine z_bipush (pc := 121) (v := nI 18) dX10_goesRound_121 (by decide) ?_
      first | refine z_copyI (pc := 123) dX10_goesRound_123 lc_RX10_177 (by assumption) (by assumption) rfl rfl rfl (by omega) (by omega) (by decide) (by decide) (by omega) (Nat.le_of_ble_eq_true rfl) ?_ | refine z_copyJ (pc := 123) dX10_goesRound_123 lc_RX10_177 (by assumption) (by assumption) rfl rfl rfl (by omega) (by omega) (by decide) (by decide) (by omega) (Nat.le_of_ble_eq_true rfl) ?_
      refine z_iconst (pc := 126) (v := nI 0) dX10_goesRound_126 (by decide) ?_
      refine z_zret (pc := 127) dX10_goesRound_127 rfl (by first | decide | assumption) ?_
      first
      | exact ⟨Or.inl ⟨rfl, _, zrd_y hB q1 (fun e => hb107 (hi.mpr ((zdf_18 q3).mp e))), (by rw [← q3.1 3 (by omega)]; exact vW_up q2), zgr_in q3⟩, fun x y r1 r2 r3 r4 => (by rw [zup_n _ _ (by omega), q4 x y r1 r2 r3, zcp_o r4]), q5⟩
      | exact ⟨Or.inr ⟨rfl, zrd_0 hB q1 ((zdf_18 q3).mpr (hi.mp hb107)), vW_back q2 q3.1 hA⟩, fun x y r1 r2 r3 r4 => (by rw [zcp_o r1, q4 x y r1 r2 r3, zcp_o r4]), q5⟩
      | exact ⟨Or.inr ⟨rfl, zrd_n hB q1, vW_back q2 q3.1 hA⟩, fun x y r1 r2 r3 r4 => (by rw [zcp_o r1, q4 x y r1 r2 r3, zcp_o r4]), q5⟩
      | exact absurd rfl hb103
      | exact absurd hb103 (by decide)
      | fail
    · skip
      refine z_iload_n (pc := 106) dX10_goesRound_106 rfl rfl ?_
      first | refine z_if_neN (pc := 107) (tgt := 128) (by with_reducible rfl) dX10_goesRound_107 (by decide) (by omega) (fun hb107 => ?_) (fun hb107 => ?_) | refine z_if_ne (pc := 107) (tgt := 128) dX10_goesRound_107 (by decide) (fun hb107 => ?_) (fun hb107 => ?_)
      · skip
        refine z_aload_n (pc := 128) dX10_goesRound_128 rfl rfl ?_
        refine z_getR (pc := 129) dX10_goesRound_129 f_RX10_11 (by assumption) rfl ?_
        refine z_iconst (pc := 132) (v := nI 3) dX10_goesRound_132 (by decide) ?_
        refine z_dup2 (pc := 133) dX10_goesRound_133 rfl rfl ?_
        refine z_ialoadv (pc := 134) dX10_goesRound_134 (by assumption) (by with_reducible rfl) (by omega) (by decide) (by first | assumption | exact q2 _ (by omega) | rfl) ?_
        refine z_iconst (pc := 135) (v := nI 1) dX10_goesRound_135 (by decide) ?_
        first | refine z_iaddN (pc := 136) (by with_reducible rfl) (by with_reducible rfl) dX10_goesRound_136 ?_ | refine z_iadd (pc := 136) dX10_goesRound_136 ?_
        refine z_iastore (pc := 137) dX10_goesRound_137 (by assumption) (by with_reducible rfl) (by omega) (by decide) ?_
        refine z_iconst (pc := 138) (v := nI 1) dX10_goesRound_138 (by decide) ?_
        refine z_zret (pc := 139) dX10_goesRound_139 rfl (by first | decide | assumption) ?_
        first
        | exact ⟨Or.inl ⟨rfl, _, zrd_y hB q1 (fun e => hb107 (hi.mpr ((zdf_18 q3).mp e))), (by rw [← q3.1 3 (by omega)]; exact vW_up q2), zgr_in q3⟩, fun x y r1 r2 r3 r4 => (by rw [zup_n _ _ (by omega), q4 x y r1 r2 r3, zcp_o r4]), q5⟩
        | exact ⟨Or.inr ⟨rfl, zrd_0 hB q1 ((zdf_18 q3).mpr (hi.mp hb107)), vW_back q2 q3.1 hA⟩, fun x y r1 r2 r3 r4 => (by rw [zcp_o r1, q4 x y r1 r2 r3, zcp_o r4]), q5⟩
        | exact ⟨Or.inr ⟨rfl, zrd_n hB q1, vW_back q2 q3.1 hA⟩, fun x y r1 r2 r3 r4 => (by rw [zcp_o r1, q4 x y r1 r2 r3, zcp_o r4]), q5⟩
        | exact absurd rfl hb103
        | exact absurd hb103 (by decide)
        | fail
      · skip
        refine z_aload_n (pc := 110) dX10_goesRound_110 rfl rfl ?_
        refine z_getR (pc := 111) dX10_goesRound_111 f_RX10_33 (by assumption) rfl ?_
        refine z_iconst (pc := 114) (v := nI 0) dX10_goesRound_114 (by decide) ?_
        refine z_aload_n (pc := 115) dX10_goesRound_115 rfl rfl ?_
        refine z_getR (pc := 116) dX10_goesRound_116 f_RX10_11 (by assumption) rfl ?_
        refine z_bipush (pc := 119) (v := nI 34) dX10_goesRound_119 (by decide) ?_
        refine z_bipush (pc := 121) (v := nI 18) dX10_goesRound_121 (by decide) ?_
        first | refine z_copyI (pc := 123) dX10_goesRound_123 lc_RX10_177 (by assumption) (by assumption) rfl rfl rfl (by omega) (by omega) (by decide) (by decide) (by omega) (Nat.le_of_ble_eq_true rfl) ?_ | refine z_copyJ (pc := 123) dX10_goesRound_123 lc_RX10_177 (by assumption) (by assumption) rfl rfl rfl (by omega) (by omega) (by decide) (by decide) (by omega) (Nat.le_of_ble_eq_true rfl) ?_
        refine z_iconst (pc := 126) (v := nI 0) dX10_goesRound_126 (by decide) ?_
        refine z_zret (pc := 127) dX10_goesRound_127 rfl (by first | decide | assumption) ?_
        first
        | exact ⟨Or.inl ⟨rfl, _, zrd_y hB q1 (fun e => hb107 (hi.mpr ((zdf_18 q3).mp e))), (by rw [← q3.1 3 (by omega)]; exact vW_up q2), zgr_in q3⟩, fun x y r1 r2 r3 r4 => (by rw [zup_n _ _ (by omega), q4 x y r1 r2 r3, zcp_o r4]), q5⟩
        | exact ⟨Or.inr ⟨rfl, zrd_0 hB q1 ((zdf_18 q3).mpr (hi.mp hb107)), vW_back q2 q3.1 hA⟩, fun x y r1 r2 r3 r4 => (by rw [zcp_o r1, q4 x y r1 r2 r3, zcp_o r4]), q5⟩
        | exact ⟨Or.inr ⟨rfl, zrd_n hB q1, vW_back q2 q3.1 hA⟩, fun x y r1 r2 r3 r4 => (by rw [zcp_o r1, q4 x y r1 r2 r3, zcp_o r4]), q5⟩
        | exact absurd rfl hb103
        | exact absurd hb103 (by decide)
        | fail
  · skip
    have hA : ∀ j, j < 18 → I1 87 j = nI (n (34 + j)) := (fun j hj => (q4 87 j (by omega) (by omega) (by omega)).trans (by rw [zcp_b]; dsimp only; rw [if_pos (by omega), show 34 + (j - 0) = 34 + j by omega]; exact hW _ (by omega)))
    refine z_iconst (pc := 58) (v := nI 0) dX10_goesRound_58 (by decide) ?_
    refine z_istore_n (pc := 59) dX10_goesRound_59 rfl (by decide) rfl ?_
    try dsimp only [zst1, zst2, zk]
    refine z_iconst (pc := 60) (v := nI 0) dX10_goesRound_60 (by decide) ?_
    refine z_istore_n (pc := 61) dX10_goesRound_61 rfl (by decide) rfl ?_
    try dsimp only [zst1, zst2, zk]
    refine l2_X10_goesRound hM q2 hT q3.2.2.1 hA (fun o ho hi => ?_) 18 0 0 rfl (by omega) ⟨fun _ j h => absurd h (by omega), fun _ => rfl⟩
    refine z_iload_n (pc := 102) dX10_goesRound_102 rfl rfl ?_
    first | refine z_if_eqN (pc := 103) (tgt := 110) (by with_reducible rfl) dX10_goesRound_103 (by decide) (by omega) (fun hb103 => ?_) (fun hb103 => ?_) | refine z_if_eq (pc := 103) (tgt := 110) dX10_goesRound_103 (by decide) (fun hb103 => ?_) (fun hb103 => ?_)
    · skip
      refine z_aload_n (pc := 110) dX10_goesRound_110 rfl rfl ?_
      refine z_getR (pc := 111) dX10_goesRound_111 f_RX10_33 (by assumption) rfl ?_
      refine z_iconst (pc := 114) (v := nI 0) dX10_goesRound_114 (by decide) ?_
      refine z_aload_n (pc := 115) dX10_goesRound_115 rfl rfl ?_
      refine z_getR (pc := 116) dX10_goesRound_116 f_RX10_11 (by assumption) rfl ?_
      refine z_bipush (pc := 119) (v := nI 34) dX10_goesRound_119 (by decide) ?_
      refine z_bipush (pc := 121) (v := nI 18) dX10_goesRound_121 (by decide) ?_
      first | refine z_copyI (pc := 123) dX10_goesRound_123 lc_RX10_177 (by assumption) (by assumption) rfl rfl rfl (by omega) (by omega) (by decide) (by decide) (by omega) (Nat.le_of_ble_eq_true rfl) ?_ | refine z_copyJ (pc := 123) dX10_goesRound_123 lc_RX10_177 (by assumption) (by assumption) rfl rfl rfl (by omega) (by omega) (by decide) (by decide) (by omega) (Nat.le_of_ble_eq_true rfl) ?_
      refine z_iconst (pc := 126) (v := nI 0) dX10_goesRound_126 (by decide) ?_
      refine z_zret (pc := 127) dX10_goesRound_127 rfl (by first | decide | assumption) ?_
      first
      | exact ⟨Or.inl ⟨rfl, _, zrd_y hB q1 (fun e => hb107 (hi.mpr ((zdf_18 q3).mp e))), (by rw [← q3.1 3 (by omega)]; exact vW_up q2), zgr_in q3⟩, fun x y r1 r2 r3 r4 => (by rw [zup_n _ _ (by omega), q4 x y r1 r2 r3, zcp_o r4]), q5⟩
      | exact ⟨Or.inr ⟨rfl, zrd_0 hB q1 ((zdf_18 q3).mpr (hi.mp hb107)), vW_back q2 q3.1 hA⟩, fun x y r1 r2 r3 r4 => (by rw [zcp_o r1, q4 x y r1 r2 r3, zcp_o r4]), q5⟩
      | exact ⟨Or.inr ⟨rfl, zrd_n hB q1, vW_back q2 q3.1 hA⟩, fun x y r1 r2 r3 r4 => (by rw [zcp_o r1, q4 x y r1 r2 r3, zcp_o r4]), q5⟩
      | exact absurd rfl hb103
      | exact absurd hb103 (by decide)
      | fail
    · skip
      refine z_iload_n (pc := 106) dX10_goesRound_106 rfl rfl ?_
      first | refine z_if_neN (pc := 107) (tgt := 128) (by with_reducible rfl) dX10_goesRound_107 (by decide) (by omega) (fun hb107 => ?_) (fun hb107 => ?_) | refine z_if_ne (pc := 107) (tgt := 128) dX10_goesRound_107 (by decide) (fun hb107 => ?_) (fun hb107 => ?_)
      · skip
        refine z_aload_n (pc := 128) dX10_goesRound_128 rfl rfl ?_
        refine z_getR (pc := 129) dX10_goesRound_129 f_RX10_11 (by assumption) rfl ?_
        refine z_iconst (pc := 132) (v := nI 3) dX10_goesRound_132 (by decide) ?_
        refine z_dup2 (pc := 133) dX10_goesRound_133 rfl rfl ?_
        refine z_ialoadv (pc := 134) dX10_goesRound_134 (by assumption) (by with_reducible rfl) (by omega) (by decide) (by first | assumption | exact q2 _ (by omega) | rfl) ?_
        refine z_iconst (pc := 135) (v := nI 1) dX10_goesRound_135 (by decide) ?_
        first | refine z_iaddN (pc := 136) (by with_reducible rfl) (by with_reducible rfl) dX10_goesRound_136 ?_ | refine z_iadd (pc := 136) dX10_goesRound_136 ?_
        refine z_iastore (pc := 137) dX10_goesRound_137 (by assumption) (by with_reducible rfl) (by omega) (by decide) ?_
        refine z_iconst (pc := 138) (v := nI 1) dX10_goesRound_138 (by decide) ?_
        refine z_zret (pc := 139) dX10_goesRound_139 rfl (by first | decide | assumption) ?_
        first
        | exact ⟨Or.inl ⟨rfl, _, zrd_y hB q1 (fun e => hb107 (hi.mpr ((zdf_18 q3).mp e))), (by rw [← q3.1 3 (by omega)]; exact vW_up q2), zgr_in q3⟩, fun x y r1 r2 r3 r4 => (by rw [zup_n _ _ (by omega), q4 x y r1 r2 r3, zcp_o r4]), q5⟩
        | exact ⟨Or.inr ⟨rfl, zrd_0 hB q1 ((zdf_18 q3).mpr (hi.mp hb107)), vW_back q2 q3.1 hA⟩, fun x y r1 r2 r3 r4 => (by rw [zcp_o r1, q4 x y r1 r2 r3, zcp_o r4]), q5⟩
        | exact ⟨Or.inr ⟨rfl, zrd_n hB q1, vW_back q2 q3.1 hA⟩, fun x y r1 r2 r3 r4 => (by rw [zcp_o r1, q4 x y r1 r2 r3, zcp_o r4]), q5⟩
        | exact absurd rfl hb103
        | exact absurd hb103 (by decide)
        | fail
      · skip
        refine z_aload_n (pc := 110) dX10_goesRound_110 rfl rfl ?_
        refine z_getR (pc := 111) dX10_goesRound_111 f_RX10_33 (by assumption) rfl ?_
        refine z_iconst (pc := 114) (v := nI 0) dX10_goesRound_114 (by decide) ?_
        refine z_aload_n (pc := 115) dX10_goesRound_115 rfl rfl ?_
        refine z_getR (pc := 116) dX10_goesRound_116 f_RX10_11 (by assumption) rfl ?_
        refine z_bipush (pc := 119) (v := nI 34) dX10_goesRound_119 (by decide) ?_
        refine z_bipush (pc := 121) (v := nI 18) dX10_goesRound_121 (by decide) ?_
        first | refine z_copyI (pc := 123) dX10_goesRound_123 lc_RX10_177 (by assumption) (by assumption) rfl rfl rfl (by omega) (by omega) (by decide) (by decide) (by omega) (Nat.le_of_ble_eq_true rfl) ?_ | refine z_copyJ (pc := 123) dX10_goesRound_123 lc_RX10_177 (by assumption) (by assumption) rfl rfl rfl (by omega) (by omega) (by decide) (by decide) (by omega) (Nat.le_of_ble_eq_true rfl) ?_
        refine z_iconst (pc := 126) (v := nI 0) dX10_goesRound_126 (by decide) ?_
        refine z_zret (pc := 127) dX10_goesRound_127 rfl (by first | decide | assumption) ?_
        first
        | exact ⟨Or.inl ⟨rfl, _, zrd_y hB q1 (fun e => hb107 (hi.mpr ((zdf_18 q3).mp e))), (by rw [← q3.1 3 (by omega)]; exact vW_up q2), zgr_in q3⟩, fun x y r1 r2 r3 r4 => (by rw [zup_n _ _ (by omega), q4 x y r1 r2 r3, zcp_o r4]), q5⟩
        | exact ⟨Or.inr ⟨rfl, zrd_0 hB q1 ((zdf_18 q3).mpr (hi.mp hb107)), vW_back q2 q3.1 hA⟩, fun x y r1 r2 r3 r4 => (by rw [zcp_o r1, q4 x y r1 r2 r3, zcp_o r4]), q5⟩
        | exact ⟨Or.inr ⟨rfl, zrd_n hB q1, vW_back q2 q3.1 hA⟩, fun x y r1 r2 r3 r4 => (by rw [zcp_o r1, q4 x y r1 r2 r3, zcp_o r4]), q5⟩
        | exact absurd rfl hb103
        | exact absurd hb103 (by decide)
        | fail
theorem zrdm_n {m d : Nat} {n : Nat → Nat} (h : zrd n = none) : zrds (m + 1) d n = (d, n) := by rw [zrds, h]
theorem zrdm_y {m d : Nat} {n n' : Nat → Nat} (h : zrd n = some n') : zrds (m + 1) d n = zrds m (d + 1) n' := by rw [zrds, h]
theorem zgr_bN {n m : Nat → Nat} (hb : bN n) (h : zgr n m) : bN m := bN_tab hb (fun j q => h.1 j (by omega) (by omega)) h.2.1
theorem zf4_t {I I1 I2 : zI} (h : zf4 I I1) (h2 : zf4 I1 I2) : zf4 I I2 := fun x y q1 q2 q3 q4 => (h2 x y q1 q2 q3 q4).trans (h x y q1 q2 q3 q4)
set_option maxHeartbeats 2000000 in
set_option maxRecDepth 20000 in
theorem l_X10_rounds {lay : List zL} {Q : Value → zI → zJ → Prop} {x d : Nat} {I0 : zI} {J0 : zJ} (hM : kM lay) (hx : x ≤ 20) : ∀ (f k : Nat) (n : Nat → Nat) (I : zI) (J : zJ), k + f = x → vW I n → bN n → bG n → zf4 I0 I → zw2 J0 J → (∀ I' J', vW I' (zrds f k n).2 → bN (zrds f k n).2 → bG (zrds f k n).2 → zf4 I0 I' → zw2 J0 J' → Q (.int (nI (zrds f k n).1)) I' J') → Z lay MX10_rounds (d + 7) 17 [.ref 79, .int (nI x), .int (nI k)] [] I J Q := by
  intro f
  induction f with
  | zero =>
    intro k n I J hm hW hb hG hf hj hq
    obtain rfl : k = x := (by omega)
    obtain ⟨mo, m80, m81, m82, m83, m84, m85, m86, m87, m88, m89, m90, m91, m92, m93, m94, m95, m96⟩ := id hM
    refine z_iload_n (pc := 17) dX10_rounds_17 rfl rfl ?_
    refine z_iload_n (pc := 18) dX10_rounds_18 rfl rfl ?_
    first | refine z_icmp_geN (pc := 19) (tgt := 35) (by with_reducible rfl) (by with_reducible rfl) dX10_rounds_19 (by decide) (by omega) (by omega) (fun hb19 => ?_) (fun hb19 => absurd hb19 (by omega)) | refine z_icmp_ge (pc := 19) (tgt := 35) dX10_rounds_19 (by decide) (fun hb19 => ?_) (fun hb19 => absurd hb19 (by omega))
    · skip
      refine z_iload_n (pc := 35) dX10_rounds_35 rfl rfl ?_
      refine z_iret (pc := 36) dX10_rounds_36 rfl ?_
      exact hq I J hW hb hG hf hj
  | succ f ih =>
    intro k n I J hm hW hb hG hf hj hq
    obtain ⟨mo, m80, m81, m82, m83, m84, m85, m86, m87, m88, m89, m90, m91, m92, m93, m94, m95, m96⟩ := id hM
    refine z_iload_n (pc := 17) dX10_rounds_17 rfl rfl ?_
    refine z_iload_n (pc := 18) dX10_rounds_18 rfl rfl ?_
    first | refine z_icmp_geN (pc := 19) (tgt := 35) (by with_reducible rfl) (by with_reducible rfl) dX10_rounds_19 (by decide) (by omega) (by omega) (fun hb19 => absurd hb19 (by omega)) (fun hb19 => ?_) | refine z_icmp_ge (pc := 19) (tgt := 35) dX10_rounds_19 (by decide) (fun hb19 => absurd hb19 (by omega)) (fun hb19 => ?_)
    · skip
      refine z_aload_n (pc := 22) dX10_rounds_22 rfl rfl ?_
      refine z_callV (pc := 23) (c_X10_goesRound hM hW hb.1 hb.2.1 hG) dX10_rounds_23 l_RX10_183 m_MX10_goesRound n_MX10_goesRound e_MX10_goesRound rfl (by omega) (by assumption) rfl rfl (Nat.le_of_ble_eq_true rfl) ?_
      rintro _ _ _ ⟨⟨rfl, m, hm1, hw1, hg1⟩ | ⟨rfl, hm1, hw1⟩, hf1, hj1⟩
      · skip
        try dsimp only [zov, Option.toList, List.cons_append, List.nil_append]
        first | refine z_if_eqN (pc := 26) (tgt := 35) (by with_reducible rfl) dX10_rounds_26 (by decide) (by omega) (fun hb26 => absurd hb26 (by decide)) (fun hb26 => ?_) | refine z_if_eq (pc := 26) (tgt := 35) dX10_rounds_26 (by decide) (fun hb26 => absurd hb26 (by decide)) (fun hb26 => ?_)
        · skip
          first | refine z_iincN (pc := 29) (c := 1) dX10_rounds_29 rfl (by with_reducible rfl) (by decide) (by decide) rfl ?_ | refine z_iinc (pc := 29) dX10_rounds_29 rfl rfl (by decide) rfl ?_
          try dsimp only [zst1, zst2, zk]
          refine z_goto (pc := 32) (tgt := 17) dX10_rounds_32 (by decide) ?_
          rw [zrdm_y hm1] at hq
          exact ih (k + 1) m _ _ (by omega) hw1 (zgr_bN hb hg1) hg1.2.2 (zf4_t hf hf1) (zw2_t hj hj1) hq
      · skip
        try dsimp only [zov, Option.toList, List.cons_append, List.nil_append]
        first | refine z_if_eqN (pc := 26) (tgt := 35) (by with_reducible rfl) dX10_rounds_26 (by decide) (by omega) (fun hb26 => ?_) (fun hb26 => absurd hb26 (by decide)) | refine z_if_eq (pc := 26) (tgt := 35) dX10_rounds_26 (by decide) (fun hb26 => ?_) (fun hb26 => absurd hb26 (by decide))
        · skip
          refine z_iload_n (pc := 35) dX10_rounds_35 rfl rfl ?_
          refine z_iret (pc := 36) dX10_rounds_36 rfl ?_
          rw [zrdm_n hm1] at hq
          exact hq _ _ hw1 hb hG (zf4_t hf hf1) (zw2_t hj hj1)
set_option maxHeartbeats 2000000 in
set_option maxRecDepth 20000 in
theorem c_X10_rounds {lay : List zL} {I : zI} {J : zJ} {S : zS} (hM : kM lay) (hV : vM I J S) {v : Int32} : zMet lay MX10_rounds 7 [.ref 79, .int v] I J (fun r I' J' => zPM I J (frounds S v) r I' J') := by
  refine zMet_of (t := MX10_rounds) (ls := [.ref 79, .int v, .null]) (by decide +kernel) (Nat.le_of_ble_eq_true rfl) rfl ?_
  obtain ⟨mo, m80, m81, m82, m83, m84, m85, m86, m87, m88, m89, m90, m91, m92, m93, m94, m95, m96⟩ := id hM
  have hW : vW I S.n := hV.1.1
  have hb := hV.1.2.1
  have hG := hV.1.2.2
  have hB := hb.1
  have hT := hb.2.1
  obtain ⟨b1, b2, b3, b4, b5, b6, b7, b8⟩ := id hB
  refine z_iload_n (pc := 0) dX10_rounds_0 rfl rfl ?_
  first | refine z_i2lN (pc := 1) (by with_reducible rfl) dX10_rounds_1 (by omega) ?_ | refine z_i2l (pc := 1) dX10_rounds_1 rfl ?_
  refine z_lconst (pc := 2) (v := lN 0) dX10_rounds_2 rfl ?_
  refine z_ldc2 (pc := 3) (v := lN 20) dX10_rounds_3 q_RX10_92 ?_
  refine z_callS (pc := 6) (c_X10_withinI (by omega) (by omega)) dX10_rounds_6 l_RX10_68 m_MX10_within s_MX10_within rfl (by omega) rfl (Nat.le_of_ble_eq_true rfl) ?_
  rintro _ _ _ ⟨⟨rfl, hx⟩ | ⟨rfl, hx⟩, rfl, rfl⟩
  · obtain ⟨x, rfl, hx0, hx1⟩ := hx
    try dsimp only [zov, Option.toList, List.cons_append, List.nil_append]
    first | refine z_if_neN (pc := 9) (tgt := 15) (by with_reducible rfl) dX10_rounds_9 (by decide) (by omega) (fun hb9 => ?_) (fun hb9 => absurd hb9 (by decide)) | refine z_if_ne (pc := 9) (tgt := 15) dX10_rounds_9 (by decide) (fun hb9 => ?_) (fun hb9 => absurd hb9 (by decide))
    · skip
      refine z_iconst (pc := 15) (v := nI 0) dX10_rounds_15 (by decide) ?_
      refine z_istore_n (pc := 16) dX10_rounds_16 rfl (by decide) rfl ?_
      try dsimp only [zst1, zst2, zk]
      refine l_X10_rounds (d := 0) hM hx1 x 0 S.n I J (by omega) hW hb hG (fun _ _ _ _ _ _ => rfl) (zw2_r _) (fun I1 J1 q1 q2 q3 q4 q5 => ?_)
      exact zPM_now hV (fun x y h1 h2 => q4 x y h1 (by omega) (by omega) (by omega)) (zw2_m q5) q1 q2 q3 (by rw [frounds, zR_y (by decide) hx1])
  · skip
    try dsimp only [zov, Option.toList, List.cons_append, List.nil_append]
    first | refine z_if_neN (pc := 9) (tgt := 15) (by with_reducible rfl) dX10_rounds_9 (by decide) (by omega) (fun hb9 => absurd hb9 (by decide)) (fun hb9 => ?_) | refine z_if_ne (pc := 9) (tgt := 15) dX10_rounds_9 (by decide) (fun hb9 => absurd hb9 (by decide)) (fun hb9 => ?_)
    · skip
      refine z_bipush (pc := 12) (v := -2) dX10_rounds_12 (by decide) ?_
      refine z_iret (pc := 14) dX10_rounds_14 rfl ?_
      exact zPM_same hV (by rw [frounds, zR_n (isR_no hx)])
