/-! ===== the model's calls: counts, marks, margins, rounds ===== -/
theorem ztk_bG {n : Nat → Nat} : bG (ztk n) := fun k hk => by
  have e : ztk n (43 + k) = 1 := by
    unfold ztk
    rw [if_neg (by omega), if_neg (by omega), if_pos (by omega)]
  rw [e]
  exact Nat.gcd_one_left _
theorem bG_to {n n' : Nat → Nat} (h : bG n) (e : ∀ k, 34 ≤ k → k < 52 → n' k = n k) : bG n' := fun k hk => by
  rw [e _ (by omega) (by omega), e _ (by omega) (by omega)]; exact h k hk
theorem zset1_bG {n : Nat → Nat} {k x : Nat} (h : bG n) (hk : k < 34 ∨ 52 ≤ k) : bG (zset1 n k x) := bG_to h (fun j h1 h2 => zset1_o (by omega))
theorem isR_no {M : Nat} {x : Int32} (h : ¬ ∃ k, x = nI k ∧ 0 ≤ k ∧ k ≤ M) : ¬ isR M x := fun ⟨a, e, h1⟩ => h ⟨a, e, by omega, h1⟩
set_option maxHeartbeats 2000000 in
set_option maxRecDepth 20000 in
theorem l_X10_begin {lay : List zL} {Q : Value → zI → zJ → Prop} {n : Nat → Nat} {d : Nat} {had : Nat} {I0 : zI} {J : zJ} (hM : kM lay) : ∀ (m k : Nat) (I : zI), k + m = 9 → (∀ j, j < 73 → (j < 34 ∨ 52 ≤ j) → I 80 j = nI (n j)) → (∀ j, j < k → I 80 (34 + j) = nI (n (7 + j)) ∧ I 80 (43 + j) = nI 1) → (∀ x y, x ≠ 80 → I x y = I0 x y) → (∀ I', vW I' (ztk n) → (∀ x y, x ≠ 80 → I' x y = I0 x y) → Q (.int (nI had)) I' J) → Z lay MX10_begin d 9 [.ref 79, .int (nI had), .int (nI k)] [] I J Q := by
  intro m
  induction m with
  | zero =>
    intro k I hm h1 h2 hf hq
    obtain rfl : k = 9 := (by omega)
    obtain ⟨mo, m80, m81, m82, m83, m84, m85, m86, m87, m88, m89, m90, m91, m92, m93, m94, m95, m96⟩ := id hM
    refine z_iload_n (pc := 9) dX10_begin_9 rfl rfl ?_
    refine z_bipush (pc := 10) (v := nI 9) dX10_begin_10 (by decide) ?_
    first | refine z_icmp_geN (pc := 12) (tgt := 49) (by with_reducible rfl) (by with_reducible rfl) dX10_begin_12 (by decide) (by omega) (by omega) (fun hb12 => ?_) (fun hb12 => absurd hb12 (by omega)) | refine z_icmp_ge (pc := 12) (tgt := 49) dX10_begin_12 (by decide) (fun hb12 => ?_) (fun hb12 => absurd hb12 (by omega))
    · skip
      refine z_aload_n (pc := 49) dX10_begin_49 rfl rfl ?_
      refine z_getR (pc := 50) dX10_begin_50 f_RX10_11 (by assumption) rfl ?_
      refine z_iconst (pc := 53) (v := nI 3) dX10_begin_53 (by decide) ?_
      refine z_iconst (pc := 54) (v := nI 0) dX10_begin_54 (by decide) ?_
      refine z_iastore (pc := 55) dX10_begin_55 (by assumption) (by with_reducible rfl) (by omega) (by decide) ?_
      refine z_iload_n (pc := 56) dX10_begin_56 rfl rfl ?_
      refine z_iret (pc := 57) dX10_begin_57 rfl ?_
      refine hq _ (fun j hj => ?_) (fun x y hx => by rw [zup_n _ _ (by omega)]; exact hf x y hx)
      unfold ztk
      by_cases q3 : j = 3
      · rw [q3, if_pos rfl]; exact zup_s _ _ _ _
      rw [if_neg q3, zup_n _ _ (by omega)]
      by_cases q4 : 34 ≤ j ∧ j < 43
      · rw [if_pos q4]
        have := (h2 (j - 34) (by omega)).1
        rw [show 34 + (j - 34) = j by omega, show 7 + (j - 34) = j - 27 by omega] at this
        exact this
      rw [if_neg q4]
      by_cases q5 : 43 ≤ j ∧ j < 52
      · rw [if_pos q5]
        have := (h2 (j - 43) (by omega)).2
        rw [show 43 + (j - 43) = j by omega] at this
        exact this
      rw [if_neg q5]
      exact h1 j hj (by omega)
  | succ m ih =>
    intro k I hm h1 h2 hf hq
    have e7 := h1 (7 + k) (by omega) (by omega)
    obtain ⟨mo, m80, m81, m82, m83, m84, m85, m86, m87, m88, m89, m90, m91, m92, m93, m94, m95, m96⟩ := id hM
    refine z_iload_n (pc := 9) dX10_begin_9 rfl rfl ?_
    refine z_bipush (pc := 10) (v := nI 9) dX10_begin_10 (by decide) ?_
    first | refine z_icmp_geN (pc := 12) (tgt := 49) (by with_reducible rfl) (by with_reducible rfl) dX10_begin_12 (by decide) (by omega) (by omega) (fun hb12 => absurd hb12 (by omega)) (fun hb12 => ?_) | refine z_icmp_ge (pc := 12) (tgt := 49) dX10_begin_12 (by decide) (fun hb12 => absurd hb12 (by omega)) (fun hb12 => ?_)
    · skip
      refine z_aload_n (pc := 15) dX10_begin_15 rfl rfl ?_
      refine z_getR (pc := 16) dX10_begin_16 f_RX10_11 (by assumption) rfl ?_
      refine z_bipush (pc := 19) (v := nI 34) dX10_begin_19 (by decide) ?_
      refine z_iload_n (pc := 21) dX10_begin_21 rfl rfl ?_
      first | refine z_iaddN (pc := 22) (by with_reducible rfl) (by with_reducible rfl) dX10_begin_22 ?_ | refine z_iadd (pc := 22) dX10_begin_22 ?_
      refine z_aload_n (pc := 23) dX10_begin_23 rfl rfl ?_
      refine z_getR (pc := 24) dX10_begin_24 f_RX10_11 (by assumption) rfl ?_
      refine z_bipush (pc := 27) (v := nI 7) dX10_begin_27 (by decide) ?_
      refine z_iload_n (pc := 29) dX10_begin_29 rfl rfl ?_
      first | refine z_iaddN (pc := 30) (by with_reducible rfl) (by with_reducible rfl) dX10_begin_30 ?_ | refine z_iadd (pc := 30) dX10_begin_30 ?_
      refine z_ialoadv (pc := 31) dX10_begin_31 (by assumption) (by with_reducible rfl) (by omega) (by decide) (by first | assumption | rfl) ?_
      refine z_iastore (pc := 32) dX10_begin_32 (by assumption) (by with_reducible rfl) (by omega) (by decide) ?_
      refine z_aload_n (pc := 33) dX10_begin_33 rfl rfl ?_
      refine z_getR (pc := 34) dX10_begin_34 f_RX10_11 (by assumption) rfl ?_
      refine z_bipush (pc := 37) (v := nI 43) dX10_begin_37 (by decide) ?_
      refine z_iload_n (pc := 39) dX10_begin_39 rfl rfl ?_
      first | refine z_iaddN (pc := 40) (by with_reducible rfl) (by with_reducible rfl) dX10_begin_40 ?_ | refine z_iadd (pc := 40) dX10_begin_40 ?_
      refine z_iconst (pc := 41) (v := nI 1) dX10_begin_41 (by decide) ?_
      refine z_iastore (pc := 42) dX10_begin_42 (by assumption) (by with_reducible rfl) (by omega) (by decide) ?_
      first | refine z_iincN (pc := 43) (c := 1) dX10_begin_43 rfl (by with_reducible rfl) (by decide) (by decide) rfl ?_ | refine z_iinc (pc := 43) dX10_begin_43 rfl rfl (by decide) rfl ?_
      try dsimp only [zst1, zst2, zk]
      refine z_goto (pc := 46) (tgt := 9) dX10_begin_46 (by decide) ?_
      refine ih (k + 1) _ (by omega) (fun j h3 h4 => by rw [zup_n _ _ (by omega), zup_n _ _ (by omega)]; exact h1 j h3 h4) (fun j h3 => ?_) (fun x y hx => by rw [zup_n _ _ (by omega), zup_n _ _ (by omega)]; exact hf x y hx) hq
      by_cases e : j = k
      · rw [e]
        exact ⟨by rw [zup_n _ _ (by omega)]; exact zup_s _ _ _ _, zup_s _ _ _ _⟩
      · rw [zup_n _ _ (by omega), zup_n _ _ (by omega), zup_n _ _ (by omega), zup_n _ _ (by omega)]
        exact h2 j (by omega)
set_option maxHeartbeats 2000000 in
set_option maxRecDepth 20000 in
theorem c_X10_begin {lay : List zL} {I : zI} {J : zJ} {n : Nat → Nat} (hM : kM lay) (hW : vW I n) : zMet lay MX10_begin 0 [.ref 79] I J (fun r I' J' => r = .int (nI (n 3)) ∧ vW I' (ztk n) ∧ (∀ x y, x ≠ 80 → I' x y = I x y) ∧ J = J') := by
  refine zMet_of (t := MX10_begin) (ls := [.ref 79, .null, .null]) (by decide +kernel) (Nat.le_of_ble_eq_true rfl) rfl ?_
  obtain ⟨mo, m80, m81, m82, m83, m84, m85, m86, m87, m88, m89, m90, m91, m92, m93, m94, m95, m96⟩ := id hM
  refine z_aload_n (pc := 0) dX10_begin_0 rfl rfl ?_
  refine z_getR (pc := 1) dX10_begin_1 f_RX10_11 (by assumption) rfl ?_
  refine z_iconst (pc := 4) (v := nI 3) dX10_begin_4 (by decide) ?_
  refine z_ialoadv (pc := 5) dX10_begin_5 (by assumption) (by with_reducible rfl) (by omega) (by decide) (by first | assumption | exact hW _ (by omega) | rfl) ?_
  refine z_istore_n (pc := 6) dX10_begin_6 rfl (by decide) rfl ?_
  try dsimp only [zst1, zst2, zk]
  refine z_iconst (pc := 7) (v := nI 0) dX10_begin_7 (by decide) ?_
  refine z_istore_n (pc := 8) dX10_begin_8 rfl (by decide) rfl ?_
  try dsimp only [zst1, zst2, zk]
  exact l_X10_begin (I0 := I) hM 9 0 I rfl (fun j hj _ => hW j hj) (fun j hj => absurd hj (by omega)) (fun _ _ _ => rfl) (fun I' h1 h2 => ⟨rfl, h1, h2, rfl⟩)
theorem c_X10_begin_p {lay : List zL} {I : zI} {J : zJ} {S : zS} (hM : kM lay) (hV : vM I J S) : zMet lay MX10_begin 0 [.ref 79] I J (fun r I' J' => zPM I J (fbegin S) r I' J') :=
  zMet_to (c_X10_begin hM hV.1.1) (fun r I' J' ⟨q1, q2, q3, q4⟩ => by subst q1; subst q4; exact zPM_now hV (fun x y h1 _ => q3 x y h1) (zmJ_r _) q2 (ztk_bN hV.1.2.1) ztk_bG rfl)
/-- now, as size leaves it ahead of begin -/
def zsz1 (n : Nat → Nat) (r c : Nat) : Nat → Nat := fun k => if k = 4 ∨ k = 5 ∨ k = 6 then 0 else zbec n r c k
theorem zsz1_tk {n : Nat → Nat} {r c k : Nat} : ztk (zsz1 n r c) k = zsize n r c k := by
  unfold ztk zsz1 zsize
  by_cases q3 : k = 3
  · rw [if_pos q3, if_pos (Or.inl q3)]
  rw [if_neg q3]
  by_cases q4 : 34 ≤ k ∧ k < 43
  · rw [if_pos q4, if_neg (by omega), if_neg (by omega), if_pos (by omega)]
    unfold zbec
    rw [if_neg (by omega), if_neg (by omega), if_pos (by omega)]
  rw [if_neg q4]
  by_cases q5 : 43 ≤ k ∧ k < 52
  · rw [if_pos q5, if_neg (by omega), if_pos (by omega)]
  rw [if_neg q5]
  by_cases q6 : k = 4 ∨ k = 5 ∨ k = 6
  · rw [if_pos q6, if_pos (by omega)]
  · rw [if_neg q6, if_neg (by omega), if_neg (by omega)]
theorem zsize_bG {n : Nat → Nat} {r c : Nat} : bG (zsize n r c) := fun k hk => by
  have e : zsize n r c (43 + k) = 1 := by
    unfold zsize
    rw [if_neg (by omega), if_pos (by omega)]
  rw [e]; exact Nat.gcd_one_left _
set_option maxHeartbeats 2000000 in
set_option maxRecDepth 20000 in
theorem l_X10_size {lay : List zL} {Q : Value → zI → zJ → Prop} {n : Nat → Nat} {d r c : Nat} {I0 : zI} {J : zJ} (hM : kM lay) (K : ∀ I, (∀ k, k < 73 → (k < 4 ∨ 7 ≤ k) → I 80 k = nI (zbec n r c k)) → (∀ x y, x ≠ 80 → I x y = I0 x y) → Z lay MX10_size d 86 [.ref 79, .int (nI r), .int (nI c), .int (nI 9)] [] I J Q) : ∀ (m k : Nat) (I : zI), k + m = 9 → (∀ j, j < 73 → (j < 4 ∨ 34 ≤ j) → I 80 j = nI (zbec n r c j)) → (∀ j, j < k → I 80 (7 + j) = nI 1 ∧ I 80 (16 + j) = nI 0 ∧ I 80 (25 + j) = nI 10) → (∀ x y, x ≠ 80 → I x y = I0 x y) → Z lay MX10_size d 43 [.ref 79, .int (nI r), .int (nI c), .int (nI k)] [] I J Q := by
  intro m
  induction m with
  | zero =>
    intro k I hm h1 h2 hf
    obtain rfl : k = 9 := (by omega)
    obtain ⟨mo, m80, m81, m82, m83, m84, m85, m86, m87, m88, m89, m90, m91, m92, m93, m94, m95, m96⟩ := id hM
    refine z_iload_n (pc := 43) dX10_size_43 rfl rfl ?_
    refine z_bipush (pc := 44) (v := nI 9) dX10_size_44 (by decide) ?_
    first | refine z_icmp_geN (pc := 46) (tgt := 86) (by with_reducible rfl) (by with_reducible rfl) dX10_size_46 (by decide) (by omega) (by omega) (fun hb46 => ?_) (fun hb46 => absurd hb46 (by omega)) | refine z_icmp_ge (pc := 46) (tgt := 86) dX10_size_46 (by decide) (fun hb46 => ?_) (fun hb46 => absurd hb46 (by omega))
    · skip
      refine K I (fun j hj hj2 => ?_) hf
      by_cases q1 : j < 4 ∨ 34 ≤ j
      · exact h1 j hj q1
      unfold zbec
      rw [if_neg (by omega), if_neg (by omega)]
      by_cases q2 : j < 16
      · rw [if_pos (by omega)]
        have := (h2 (j - 7) (by omega)).1
        rw [show 7 + (j - 7) = j by omega] at this; exact this
      rw [if_neg (by omega)]
      by_cases q3 : j < 25
      · rw [if_pos (by omega)]
        have := (h2 (j - 16) (by omega)).2.1
        rw [show 16 + (j - 16) = j by omega] at this; exact this
      rw [if_neg (by omega), if_pos (by omega)]
      have := (h2 (j - 25) (by omega)).2.2
      rw [show 25 + (j - 25) = j by omega] at this; exact this
  | succ m ih =>
    intro k I hm h1 h2 hf
    obtain ⟨mo, m80, m81, m82, m83, m84, m85, m86, m87, m88, m89, m90, m91, m92, m93, m94, m95, m96⟩ := id hM
    refine z_iload_n (pc := 43) dX10_size_43 rfl rfl ?_
    refine z_bipush (pc := 44) (v := nI 9) dX10_size_44 (by decide) ?_
    first | refine z_icmp_geN (pc := 46) (tgt := 86) (by with_reducible rfl) (by with_reducible rfl) dX10_size_46 (by decide) (by omega) (by omega) (fun hb46 => absurd hb46 (by omega)) (fun hb46 => ?_) | refine z_icmp_ge (pc := 46) (tgt := 86) dX10_size_46 (by decide) (fun hb46 => absurd hb46 (by omega)) (fun hb46 => ?_)
    · skip
      refine z_aload_n (pc := 49) dX10_size_49 rfl rfl ?_
      refine z_getR (pc := 50) dX10_size_50 f_RX10_11 (by assumption) rfl ?_
      refine z_bipush (pc := 53) (v := nI 7) dX10_size_53 (by decide) ?_
      refine z_iload_n (pc := 55) dX10_size_55 rfl rfl ?_
      first | refine z_iaddN (pc := 56) (by with_reducible rfl) (by with_reducible rfl) dX10_size_56 ?_ | refine z_iadd (pc := 56) dX10_size_56 ?_
      refine z_iconst (pc := 57) (v := nI 1) dX10_size_57 (by decide) ?_
      refine z_iastore (pc := 58) dX10_size_58 (by assumption) (by with_reducible rfl) (by omega) (by decide) ?_
      refine z_aload_n (pc := 59) dX10_size_59 rfl rfl ?_
      refine z_getR (pc := 60) dX10_size_60 f_RX10_11 (by assumption) rfl ?_
      refine z_bipush (pc := 63) (v := nI 16) dX10_size_63 (by decide) ?_
      refine z_iload_n (pc := 65) dX10_size_65 rfl rfl ?_
      first | refine z_iaddN (pc := 66) (by with_reducible rfl) (by with_reducible rfl) dX10_size_66 ?_ | refine z_iadd (pc := 66) dX10_size_66 ?_
      refine z_iconst (pc := 67) (v := nI 0) dX10_size_67 (by decide) ?_
      refine z_iastore (pc := 68) dX10_size_68 (by assumption) (by with_reducible rfl) (by omega) (by decide) ?_
      refine z_aload_n (pc := 69) dX10_size_69 rfl rfl ?_
      refine z_getR (pc := 70) dX10_size_70 f_RX10_11 (by assumption) rfl ?_
      refine z_bipush (pc := 73) (v := nI 25) dX10_size_73 (by decide) ?_
      refine z_iload_n (pc := 75) dX10_size_75 rfl rfl ?_
      first | refine z_iaddN (pc := 76) (by with_reducible rfl) (by with_reducible rfl) dX10_size_76 ?_ | refine z_iadd (pc := 76) dX10_size_76 ?_
      refine z_bipush (pc := 77) (v := nI 10) dX10_size_77 (by decide) ?_
      refine z_iastore (pc := 79) dX10_size_79 (by assumption) (by with_reducible rfl) (by omega) (by decide) ?_
      first | refine z_iincN (pc := 80) (c := 1) dX10_size_80 rfl (by with_reducible rfl) (by decide) (by decide) rfl ?_ | refine z_iinc (pc := 80) dX10_size_80 rfl rfl (by decide) rfl ?_
      try dsimp only [zst1, zst2, zk]
      refine z_goto (pc := 83) (tgt := 43) dX10_size_83 (by decide) ?_
      refine ih (k + 1) _ (by omega) (fun j h3 h4 => by rw [zup_n _ _ (by omega), zup_n _ _ (by omega), zup_n _ _ (by omega)]; exact h1 j h3 h4) (fun j h3 => ?_) (fun x y hx => by rw [zup_n _ _ (by omega), zup_n _ _ (by omega), zup_n _ _ (by omega)]; exact hf x y hx)
      by_cases e : j = k
      · rw [e]
        exact ⟨by rw [zup_n _ _ (by omega), zup_n _ _ (by omega)]; exact zup_s _ _ _ _, by rw [zup_n _ _ (by omega)]; exact zup_s _ _ _ _, zup_s _ _ _ _⟩
      · rw [zup_n _ _ (by omega), zup_n _ _ (by omega), zup_n _ _ (by omega), zup_n _ _ (by omega), zup_n _ _ (by omega), zup_n _ _ (by omega), zup_n _ _ (by omega), zup_n _ _ (by omega), zup_n _ _ (by omega)]
        exact h2 j (by omega)
set_option maxHeartbeats 2000000 in
set_option maxRecDepth 20000 in
theorem c_X10_size {lay : List zL} {I : zI} {J : zJ} {S : zS} (hM : kM lay) (hV : vM I J S) {r0 c : Int32} : zMet lay MX10_size 2 [.ref 79, .int r0, .int c] I J (fun r I' J' => zPM I J (fsize S r0 c) r I' J') := by
  refine zMet_of (t := MX10_size) (ls := [.ref 79, .int r0, .int c, .null]) (by decide +kernel) (Nat.le_of_ble_eq_true rfl) rfl ?_
  obtain ⟨mo, m80, m81, m82, m83, m84, m85, m86, m87, m88, m89, m90, m91, m92, m93, m94, m95, m96⟩ := id hM
  have hW : vW I S.n := hV.1.1
  have hb := hV.1.2.1
  have hG := hV.1.2.2
  have hB := hb.1
  have hT := hb.2.1
  obtain ⟨b1, b2, b3, b4, b5, b6, b7, b8⟩ := id hB
  refine z_iload_n (pc := 0) dX10_size_0 rfl rfl ?_
  first | refine z_i2lN (pc := 1) (by with_reducible rfl) dX10_size_1 (by omega) ?_ | refine z_i2l (pc := 1) dX10_size_1 rfl ?_
  refine z_lconst (pc := 2) (v := lN 1) dX10_size_2 rfl ?_
  refine z_ldc2 (pc := 3) (v := lN 3) dX10_size_3 q_RX10_86 ?_
  refine z_callS (pc := 6) (c_X10_withinI (by omega) (by omega)) dX10_size_6 l_RX10_68 m_MX10_within s_MX10_within rfl (by omega) rfl (Nat.le_of_ble_eq_true rfl) ?_
  rintro _ _ _ ⟨⟨rfl, hr⟩ | ⟨rfl, hr⟩, rfl, rfl⟩
  · skip
    try dsimp only [zov, Option.toList, List.cons_append, List.nil_append]
    first | refine z_if_eqN (pc := 9) (tgt := 24) (by with_reducible rfl) dX10_size_9 (by decide) (by omega) (fun hb9 => absurd hb9 (by decide)) (fun hb9 => ?_) | refine z_if_eq (pc := 9) (tgt := 24) dX10_size_9 (by decide) (fun hb9 => absurd hb9 (by decide)) (fun hb9 => ?_)
    · skip
      refine z_iload_n (pc := 12) dX10_size_12 rfl rfl ?_
      first | refine z_i2lN (pc := 13) (by with_reducible rfl) dX10_size_13 (by omega) ?_ | refine z_i2l (pc := 13) dX10_size_13 rfl ?_
      refine z_lconst (pc := 14) (v := lN 1) dX10_size_14 rfl ?_
      refine z_ldc2 (pc := 15) (v := lN 3) dX10_size_15 q_RX10_86 ?_
      refine z_callS (pc := 18) (c_X10_withinI (by omega) (by omega)) dX10_size_18 l_RX10_68 m_MX10_within s_MX10_within rfl (by omega) rfl (Nat.le_of_ble_eq_true rfl) ?_
      rintro _ _ _ ⟨⟨rfl, hc⟩ | ⟨rfl, hc⟩, rfl, rfl⟩
      · obtain ⟨a, rfl, ha0, ha1⟩ := hr; obtain ⟨b, rfl, hb0, hb1⟩ := hc
        try dsimp only [zov, Option.toList, List.cons_append, List.nil_append]
        first | refine z_if_neN (pc := 21) (tgt := 27) (by with_reducible rfl) dX10_size_21 (by decide) (by omega) (fun hb21 => ?_) (fun hb21 => absurd hb21 (by decide)) | refine z_if_ne (pc := 21) (tgt := 27) dX10_size_21 (by decide) (fun hb21 => ?_) (fun hb21 => absurd hb21 (by decide))
        · skip
          refine z_aload_n (pc := 27) dX10_size_27 rfl rfl ?_
          refine z_getR (pc := 28) dX10_size_28 f_RX10_11 (by assumption) rfl ?_
          refine z_iconst (pc := 31) (v := nI 0) dX10_size_31 (by decide) ?_
          refine z_iload_n (pc := 32) dX10_size_32 rfl rfl ?_
          refine z_iastore (pc := 33) dX10_size_33 (by assumption) (by with_reducible rfl) (by omega) (by decide) ?_
          refine z_aload_n (pc := 34) dX10_size_34 rfl rfl ?_
          refine z_getR (pc := 35) dX10_size_35 f_RX10_11 (by assumption) rfl ?_
          refine z_iconst (pc := 38) (v := nI 1) dX10_size_38 (by decide) ?_
          refine z_iload_n (pc := 39) dX10_size_39 rfl rfl ?_
          refine z_iastore (pc := 40) dX10_size_40 (by assumption) (by with_reducible rfl) (by omega) (by decide) ?_
          refine z_iconst (pc := 41) (v := nI 0) dX10_size_41 (by decide) ?_
          refine z_istore_n (pc := 42) dX10_size_42 rfl (by decide) rfl ?_
          try dsimp only [zst1, zst2, zk]
          refine l_X10_size (n := S.n) (I0 := I) hM (fun I1 h1 hf1 => ?_) 9 0 _ rfl (fun j h3 h4 => ?_) (fun j hj => absurd hj (by omega)) (fun x y hx => by rw [zup_n _ _ (by omega), zup_n _ _ (by omega)])
          · skip
            refine z_aload_n (pc := 86) dX10_size_86 rfl rfl ?_
            refine z_getR (pc := 87) dX10_size_87 f_RX10_11 (by assumption) rfl ?_
            refine z_iconst (pc := 90) (v := nI 4) dX10_size_90 (by decide) ?_
            refine z_iconst (pc := 91) (v := nI 0) dX10_size_91 (by decide) ?_
            refine z_iastore (pc := 92) dX10_size_92 (by assumption) (by with_reducible rfl) (by omega) (by decide) ?_
            refine z_aload_n (pc := 93) dX10_size_93 rfl rfl ?_
            refine z_getR (pc := 94) dX10_size_94 f_RX10_11 (by assumption) rfl ?_
            refine z_iconst (pc := 97) (v := nI 5) dX10_size_97 (by decide) ?_
            refine z_iconst (pc := 98) (v := nI 0) dX10_size_98 (by decide) ?_
            refine z_iastore (pc := 99) dX10_size_99 (by assumption) (by with_reducible rfl) (by omega) (by decide) ?_
            refine z_aload_n (pc := 100) dX10_size_100 rfl rfl ?_
            refine z_getR (pc := 101) dX10_size_101 f_RX10_11 (by assumption) rfl ?_
            refine z_bipush (pc := 104) (v := nI 6) dX10_size_104 (by decide) ?_
            refine z_iconst (pc := 106) (v := nI 0) dX10_size_106 (by decide) ?_
            refine z_iastore (pc := 107) dX10_size_107 (by assumption) (by with_reducible rfl) (by omega) (by decide) ?_
            have hw1 : ∀ k, k < 73 → zup (zup (zup I1 80 4 (nI 0)) 80 5 (nI 0)) 80 6 (nI 0) 80 k = nI (zsz1 S.n a b k) := (by
              intro k hk
              unfold zsz1
              by_cases q6 : k = 6
              · rw [q6, if_pos (by omega)]; exact zup_s _ _ _ _
              rw [zup_n _ _ (by omega)]
              by_cases q5 : k = 5
              · rw [q5, if_pos (by omega)]; exact zup_s _ _ _ _
              rw [zup_n _ _ (by omega)]
              by_cases q4 : k = 4
              · rw [q4, if_pos (by omega)]; exact zup_s _ _ _ _
              rw [zup_n _ _ (by omega), if_neg (by omega)]
              exact h1 k hk (by omega))
            refine z_aload_n (pc := 108) dX10_size_108 rfl rfl ?_
            refine z_callV (pc := 109) (c_X10_begin (n := zsz1 S.n a b) hM (fun k hk => (by first | exact hw1 k hk))) dX10_size_109 l_RX10_88 m_MX10_begin n_MX10_begin e_MX10_begin rfl (by omega) (by assumption) rfl rfl (Nat.le_of_ble_eq_true rfl) ?_
            rintro _ _ _ (⟨rfl, hv, hi, rfl⟩)
            try dsimp only [zov, Option.toList, List.cons_append, List.nil_append]
            refine z_pop (pc := 112) dX10_size_112 rfl ?_
            refine z_iload_n (pc := 113) dX10_size_113 rfl rfl ?_
            refine z_iload_n (pc := 114) dX10_size_114 rfl rfl ?_
            first | refine z_imulN (pc := 115) (by with_reducible rfl) (by with_reducible rfl) dX10_size_115 ?_ | refine z_imul (pc := 115) dX10_size_115 ?_
            refine z_iret (pc := 116) dX10_size_116 rfl ?_
            exact zPM_now hV (fun x y q _ => by rw [hi x y q, zup_n _ _ (by omega), zup_n _ _ (by omega), zup_n _ _ (by omega)]; exact hf1 x y q) (zmJ_r _) (vW_eq hv (fun k _ => zsz1_tk.symm)) (zsize_bN ⟨ha0, ha1⟩ ⟨hb0, hb1⟩ b5) zsize_bG (fsize_y ⟨ha0, ha1⟩ ⟨hb0, hb1⟩)
          · unfold zbec
            by_cases q0 : j = 0
            · rw [q0, zup_n _ _ (by omega), if_pos rfl]; exact zup_s _ _ _ _
            by_cases q1 : j = 1
            · rw [q1, if_neg (by omega), if_pos rfl]; exact zup_s _ _ _ _
            rw [zup_n _ _ (by omega), zup_n _ _ (by omega), if_neg q0, if_neg q1, if_neg (by omega), if_neg (by omega), if_neg (by omega)]
            exact hW j h3
      · skip
        try dsimp only [zov, Option.toList, List.cons_append, List.nil_append]
        first | refine z_if_neN (pc := 21) (tgt := 27) (by with_reducible rfl) dX10_size_21 (by decide) (by omega) (fun hb21 => absurd hb21 (by decide)) (fun hb21 => ?_) | refine z_if_ne (pc := 21) (tgt := 27) dX10_size_21 (by decide) (fun hb21 => absurd hb21 (by decide)) (fun hb21 => ?_)
        · skip
          refine z_bipush (pc := 24) (v := -2) dX10_size_24 (by decide) ?_
          refine z_iret (pc := 26) dX10_size_26 rfl ?_
          first
            | exact zPM_same hV (fsize_n (fun q => hr (by obtain ⟨⟨a, e, h1, h2⟩, _⟩ := q; exact ⟨a, e, h1, h2⟩)))
            | exact zPM_same hV (fsize_n (fun q => hc (by obtain ⟨_, a, e, h1, h2⟩ := q; exact ⟨a, e, h1, h2⟩)))
            | fail
  · skip
    try dsimp only [zov, Option.toList, List.cons_append, List.nil_append]
    first | refine z_if_eqN (pc := 9) (tgt := 24) (by with_reducible rfl) dX10_size_9 (by decide) (by omega) (fun hb9 => ?_) (fun hb9 => absurd hb9 (by decide)) | refine z_if_eq (pc := 9) (tgt := 24) dX10_size_9 (by decide) (fun hb9 => ?_) (fun hb9 => absurd hb9 (by decide))
    · skip
      refine z_bipush (pc := 24) (v := -2) dX10_size_24 (by decide) ?_
      refine z_iret (pc := 26) dX10_size_26 rfl ?_
      first
        | exact zPM_same hV (fsize_n (fun q => hr (by obtain ⟨⟨a, e, h1, h2⟩, _⟩ := q; exact ⟨a, e, h1, h2⟩)))
        | exact zPM_same hV (fsize_n (fun q => hc (by obtain ⟨_, a, e, h1, h2⟩ := q; exact ⟨a, e, h1, h2⟩)))
        | fail
set_option maxHeartbeats 2000000 in
set_option maxRecDepth 20000 in
theorem c_X10_tell {lay : List zL} {I : zI} {J : zJ} {S : zS} (hM : kM lay) (hV : vM I J S) {i j v : Int32} : zMet lay MX10_tell 2 [.ref 79, .int i, .int j, .int v] I J (fun r I' J' => zPM I J (ftell S i j v) r I' J') := by
  refine zMet_of (t := MX10_tell) (ls := [.ref 79, .int i, .int j, .int v, .null]) (by decide +kernel) (Nat.le_of_ble_eq_true rfl) rfl ?_
  obtain ⟨mo, m80, m81, m82, m83, m84, m85, m86, m87, m88, m89, m90, m91, m92, m93, m94, m95, m96⟩ := id hM
  have hW : vW I S.n := hV.1.1
  have hb := hV.1.2.1
  have hG := hV.1.2.2
  have hB := hb.1
  have hT := hb.2.1
  obtain ⟨b1, b2, b3, b4, b5, b6, b7, b8⟩ := id hB
  refine z_aload_n (pc := 0) dX10_tell_0 rfl rfl ?_
  refine z_iload_n (pc := 1) dX10_tell_1 rfl rfl ?_
  refine z_iload_n (pc := 2) dX10_tell_2 rfl rfl ?_
  refine z_callV (pc := 3) (c_X10_isCell hM hW hB) dX10_tell_3 l_RX10_72 m_MX10_isCell n_MX10_isCell e_MX10_isCell rfl (by omega) (by assumption) rfl rfl (Nat.le_of_ble_eq_true rfl) ?_
  rintro _ _ _ ⟨⟨rfl, hc⟩ | ⟨rfl, hc⟩, rfl, rfl⟩
  · obtain ⟨a, b, rfl, rfl, ha, hbb⟩ := hc; have hk : 3 * a + b < 9 := (by omega); have ea : 3 * a + b = 3 * a + b := rfl
    try dsimp only [zov, Option.toList, List.cons_append, List.nil_append]
    first | refine z_if_neN (pc := 6) (tgt := 11) (by with_reducible rfl) dX10_tell_6 (by decide) (by omega) (fun hb6 => ?_) (fun hb6 => absurd hb6 (by decide)) | refine z_if_ne (pc := 6) (tgt := 11) dX10_tell_6 (by decide) (fun hb6 => ?_) (fun hb6 => absurd hb6 (by decide))
    · skip
      refine z_iload_n (pc := 11) dX10_tell_11 rfl rfl ?_
      first | refine z_i2lN (pc := 12) (by with_reducible rfl) dX10_tell_12 (by omega) ?_ | refine z_i2l (pc := 12) dX10_tell_12 rfl ?_
      refine z_lconst (pc := 13) (v := lN 0) dX10_tell_13 rfl ?_
      refine z_ldc2 (pc := 14) (v := lN 20) dX10_tell_14 q_RX10_92 ?_
      refine z_callS (pc := 17) (c_X10_withinI (by omega) (by omega)) dX10_tell_17 l_RX10_68 m_MX10_within s_MX10_within rfl (by omega) rfl (Nat.le_of_ble_eq_true rfl) ?_
      rintro _ _ _ ⟨⟨rfl, hx⟩ | ⟨rfl, hx⟩, rfl, rfl⟩
      · obtain ⟨x, rfl, hx0, hx1⟩ := hx
        try dsimp only [zov, Option.toList, List.cons_append, List.nil_append]
        first | refine z_if_neN (pc := 20) (tgt := 26) (by with_reducible rfl) dX10_tell_20 (by decide) (by omega) (fun hb20 => ?_) (fun hb20 => absurd hb20 (by decide)) | refine z_if_ne (pc := 20) (tgt := 26) dX10_tell_20 (by decide) (fun hb20 => ?_) (fun hb20 => absurd hb20 (by decide))
        · skip
          refine z_aload_n (pc := 26) dX10_tell_26 rfl rfl ?_
          refine z_getR (pc := 27) dX10_tell_27 f_RX10_11 (by assumption) rfl ?_
          refine z_bipush (pc := 30) (v := nI 7) dX10_tell_30 (by decide) ?_
          refine z_iconst (pc := 32) (v := nI 3) dX10_tell_32 (by decide) ?_
          refine z_iload_n (pc := 33) dX10_tell_33 rfl rfl ?_
          first | refine z_imulN (pc := 34) (by with_reducible rfl) (by with_reducible rfl) dX10_tell_34 ?_ | refine z_imul (pc := 34) dX10_tell_34 ?_
          first | refine z_iaddN (pc := 35) (by with_reducible rfl) (by with_reducible rfl) dX10_tell_35 ?_ | refine z_iadd (pc := 35) dX10_tell_35 ?_
          refine z_iload_n (pc := 36) dX10_tell_36 rfl rfl ?_
          first | refine z_iaddN (pc := 37) (by with_reducible rfl) (by with_reducible rfl) dX10_tell_37 ?_ | refine z_iadd (pc := 37) dX10_tell_37 ?_
          refine z_ialoadv (pc := 38) dX10_tell_38 (by assumption) (by with_reducible rfl) (by omega) (by decide) (by first | assumption | exact hW _ (by omega) | rfl) ?_
          refine z_istore (pc := 39) dX10_tell_39 (by decide) rfl ?_
          try dsimp only [zst1, zst2, zk]
          refine z_aload_n (pc := 41) dX10_tell_41 rfl rfl ?_
          refine z_getR (pc := 42) dX10_tell_42 f_RX10_11 (by assumption) rfl ?_
          refine z_bipush (pc := 45) (v := nI 7) dX10_tell_45 (by decide) ?_
          refine z_iconst (pc := 47) (v := nI 3) dX10_tell_47 (by decide) ?_
          refine z_iload_n (pc := 48) dX10_tell_48 rfl rfl ?_
          first | refine z_imulN (pc := 49) (by with_reducible rfl) (by with_reducible rfl) dX10_tell_49 ?_ | refine z_imul (pc := 49) dX10_tell_49 ?_
          first | refine z_iaddN (pc := 50) (by with_reducible rfl) (by with_reducible rfl) dX10_tell_50 ?_ | refine z_iadd (pc := 50) dX10_tell_50 ?_
          refine z_iload_n (pc := 51) dX10_tell_51 rfl rfl ?_
          first | refine z_iaddN (pc := 52) (by with_reducible rfl) (by with_reducible rfl) dX10_tell_52 ?_ | refine z_iadd (pc := 52) dX10_tell_52 ?_
          refine z_iload_n (pc := 53) dX10_tell_53 rfl rfl ?_
          refine z_iastore (pc := 54) dX10_tell_54 (by assumption) (by with_reducible rfl) (by omega) (by decide) ?_
          refine z_aload_n (pc := 55) dX10_tell_55 rfl rfl ?_
          refine z_callV (pc := 56) (c_X10_begin hM (vW_up hW)) dX10_tell_56 l_RX10_88 m_MX10_begin n_MX10_begin e_MX10_begin rfl (by omega) (by assumption) rfl rfl (Nat.le_of_ble_eq_true rfl) ?_
          rintro _ _ _ (⟨rfl, hv, hi, rfl⟩)
          try dsimp only [zov, Option.toList, List.cons_append, List.nil_append]
          refine z_pop (pc := 59) dX10_tell_59 rfl ?_
          refine z_iload (pc := 60) dX10_tell_60 rfl ?_
          refine z_iret (pc := 62) dX10_tell_62 rfl ?_
          first
            | exact zPM_same hV (by rw [ftell, zC_n hc])
            | exact zPM_same hV (by rw [ftell, zC_y b2 b4 ha hbb, zR_n (isR_no hx)])
            | (rw [Nat.add_assoc] at hv
               exact zPM_now hV (fun x y q _ => by rw [hi x y q, zup_n _ _ (by omega)]) (zmJ_r _) hv (ztk_bN (zset1_bN hb (zset1_bSc hB hk hx1) (by omega) (by omega))) ztk_bG (by rw [ftell, zC_y b2 b4 ha hbb, zR_y (by decide) hx1, Nat.add_assoc]))
            | fail
      · skip
        try dsimp only [zov, Option.toList, List.cons_append, List.nil_append]
        first | refine z_if_neN (pc := 20) (tgt := 26) (by with_reducible rfl) dX10_tell_20 (by decide) (by omega) (fun hb20 => absurd hb20 (by decide)) (fun hb20 => ?_) | refine z_if_ne (pc := 20) (tgt := 26) dX10_tell_20 (by decide) (fun hb20 => absurd hb20 (by decide)) (fun hb20 => ?_)
        · skip
          refine z_bipush (pc := 23) (v := -2) dX10_tell_23 (by decide) ?_
          refine z_iret (pc := 25) dX10_tell_25 rfl ?_
          first
            | exact zPM_same hV (by rw [ftell, zC_n hc])
            | exact zPM_same hV (by rw [ftell, zC_y b2 b4 ha hbb, zR_n (isR_no hx)])
            | (rw [Nat.add_assoc] at hv
               exact zPM_now hV (fun x y q _ => by rw [hi x y q, zup_n _ _ (by omega)]) (zmJ_r _) hv (ztk_bN (zset1_bN hb (zset1_bSc hB hk hx1) (by omega) (by omega))) ztk_bG (by rw [ftell, zC_y b2 b4 ha hbb, zR_y (by decide) hx1, Nat.add_assoc]))
            | fail
  · skip
    try dsimp only [zov, Option.toList, List.cons_append, List.nil_append]
    first | refine z_if_neN (pc := 6) (tgt := 11) (by with_reducible rfl) dX10_tell_6 (by decide) (by omega) (fun hb6 => absurd hb6 (by decide)) (fun hb6 => ?_) | refine z_if_ne (pc := 6) (tgt := 11) dX10_tell_6 (by decide) (fun hb6 => absurd hb6 (by decide)) (fun hb6 => ?_)
    · skip
      refine z_iconst (pc := 9) (v := -1) dX10_tell_9 (by decide) ?_
      refine z_iret (pc := 10) dX10_tell_10 rfl ?_
      first
        | exact zPM_same hV (by rw [ftell, zC_n hc])
        | exact zPM_same hV (by rw [ftell, zC_y b2 b4 ha hbb, zR_n (isR_no hx)])
        | (rw [Nat.add_assoc] at hv
           exact zPM_now hV (fun x y q _ => by rw [hi x y q, zup_n _ _ (by omega)]) (zmJ_r _) hv (ztk_bN (zset1_bN hb (zset1_bSc hB hk hx1) (by omega) (by omega))) ztk_bG (by rw [ftell, zC_y b2 b4 ha hbb, zR_y (by decide) hx1, Nat.add_assoc]))
        | fail
set_option maxHeartbeats 2000000 in
set_option maxRecDepth 20000 in
theorem c_X10_mark {lay : List zL} {I : zI} {J : zJ} {S : zS} (hM : kM lay) (hV : vM I J S) {i j v : Int32} : zMet lay MX10_mark 2 [.ref 79, .int i, .int j, .int v] I J (fun r I' J' => zPM I J (fmark S i j v) r I' J') := by
  refine zMet_of (t := MX10_mark) (ls := [.ref 79, .int i, .int j, .int v]) (by decide +kernel) (Nat.le_of_ble_eq_true rfl) rfl ?_
  obtain ⟨mo, m80, m81, m82, m83, m84, m85, m86, m87, m88, m89, m90, m91, m92, m93, m94, m95, m96⟩ := id hM
  have hW : vW I S.n := hV.1.1
  have hb := hV.1.2.1
  have hG := hV.1.2.2
  have hB := hb.1
  have hT := hb.2.1
  obtain ⟨b1, b2, b3, b4, b5, b6, b7, b8⟩ := id hB
  refine z_aload_n (pc := 0) dX10_mark_0 rfl rfl ?_
  refine z_iload_n (pc := 1) dX10_mark_1 rfl rfl ?_
  refine z_iload_n (pc := 2) dX10_mark_2 rfl rfl ?_
  refine z_callV (pc := 3) (c_X10_isCell hM hW hB) dX10_mark_3 l_RX10_72 m_MX10_isCell n_MX10_isCell e_MX10_isCell rfl (by omega) (by assumption) rfl rfl (Nat.le_of_ble_eq_true rfl) ?_
  rintro _ _ _ ⟨⟨rfl, hc⟩ | ⟨rfl, hc⟩, rfl, rfl⟩
  · obtain ⟨a, b, rfl, rfl, ha, hbb⟩ := hc; have hk : 3 * a + b < 9 := (by omega); have ea : 3 * a + b = 3 * a + b := rfl
    try dsimp only [zov, Option.toList, List.cons_append, List.nil_append]
    first | refine z_if_neN (pc := 6) (tgt := 11) (by with_reducible rfl) dX10_mark_6 (by decide) (by omega) (fun hb6 => ?_) (fun hb6 => absurd hb6 (by decide)) | refine z_if_ne (pc := 6) (tgt := 11) dX10_mark_6 (by decide) (fun hb6 => ?_) (fun hb6 => absurd hb6 (by decide))
    · skip
      refine z_iload_n (pc := 11) dX10_mark_11 rfl rfl ?_
      first | refine z_i2lN (pc := 12) (by with_reducible rfl) dX10_mark_12 (by omega) ?_ | refine z_i2l (pc := 12) dX10_mark_12 rfl ?_
      refine z_lconst (pc := 13) (v := lN 0) dX10_mark_13 rfl ?_
      refine z_ldc2 (pc := 14) (v := lN 2) dX10_mark_14 q_RX10_76 ?_
      refine z_callS (pc := 17) (c_X10_withinI (by omega) (by omega)) dX10_mark_17 l_RX10_68 m_MX10_within s_MX10_within rfl (by omega) rfl (Nat.le_of_ble_eq_true rfl) ?_
      rintro _ _ _ ⟨⟨rfl, hx⟩ | ⟨rfl, hx⟩, rfl, rfl⟩
      · obtain ⟨x, rfl, hx0, hx1⟩ := hx
        try dsimp only [zov, Option.toList, List.cons_append, List.nil_append]
        first | refine z_if_eqN (pc := 20) (tgt := 39) (by with_reducible rfl) dX10_mark_20 (by decide) (by omega) (fun hb20 => absurd hb20 (by decide)) (fun hb20 => ?_) | refine z_if_eq (pc := 20) (tgt := 39) dX10_mark_20 (by decide) (fun hb20 => absurd hb20 (by decide)) (fun hb20 => ?_)
        · skip
          refine z_aload_n (pc := 23) dX10_mark_23 rfl rfl ?_
          refine z_bipush (pc := 24) (v := nI 16) dX10_mark_24 (by decide) ?_
          refine z_iconst (pc := 26) (v := nI 3) dX10_mark_26 (by decide) ?_
          refine z_iload_n (pc := 27) dX10_mark_27 rfl rfl ?_
          first | refine z_imulN (pc := 28) (by with_reducible rfl) (by with_reducible rfl) dX10_mark_28 ?_ | refine z_imul (pc := 28) dX10_mark_28 ?_
          first | refine z_iaddN (pc := 29) (by with_reducible rfl) (by with_reducible rfl) dX10_mark_29 ?_ | refine z_iadd (pc := 29) dX10_mark_29 ?_
          refine z_iload_n (pc := 30) dX10_mark_30 rfl rfl ?_
          first | refine z_iaddN (pc := 31) (by with_reducible rfl) (by with_reducible rfl) dX10_mark_31 ?_ | refine z_iadd (pc := 31) dX10_mark_31 ?_
          refine z_iload_n (pc := 32) dX10_mark_32 rfl rfl ?_
          refine z_callV (pc := 33) (c_X10_becomes hM hW (by omega)) dX10_mark_33 l_RX10_94 m_MX10_becomes n_MX10_becomes e_MX10_becomes rfl (by omega) (by assumption) rfl rfl (Nat.le_of_ble_eq_true rfl) ?_
          rintro _ _ _ (⟨rfl, rfl, rfl⟩)
          try dsimp only [zov, Option.toList, List.cons_append, List.nil_append]
          refine z_goto (pc := 36) (tgt := 41) dX10_mark_36 (by decide) ?_
          refine z_iret (pc := 41) dX10_mark_41 rfl ?_
          first
            | exact zPM_same hV (by rw [fmark, zC_n hc])
            | exact zPM_same hV (by rw [fmark, zC_y b2 b4 ha hbb, zR_n (isR_no hx)])
            | exact zPM_now hV (fun x y q _ => zup_n _ _ (by omega)) (zmJ_r _) (by rw [Nat.add_assoc]; exact vW_up hW) (zset1_bN hb (zset1_bSk hB hk hx1) (by omega) (by omega)) (zset1_bG hG (by omega)) (by rw [fmark, zC_y b2 b4 ha hbb, zR_y (by decide) hx1, Nat.add_assoc])
            | fail
      · skip
        try dsimp only [zov, Option.toList, List.cons_append, List.nil_append]
        first | refine z_if_eqN (pc := 20) (tgt := 39) (by with_reducible rfl) dX10_mark_20 (by decide) (by omega) (fun hb20 => ?_) (fun hb20 => absurd hb20 (by decide)) | refine z_if_eq (pc := 20) (tgt := 39) dX10_mark_20 (by decide) (fun hb20 => ?_) (fun hb20 => absurd hb20 (by decide))
        · skip
          refine z_bipush (pc := 39) (v := -2) dX10_mark_39 (by decide) ?_
          refine z_iret (pc := 41) dX10_mark_41 rfl ?_
          first
            | exact zPM_same hV (by rw [fmark, zC_n hc])
            | exact zPM_same hV (by rw [fmark, zC_y b2 b4 ha hbb, zR_n (isR_no hx)])
            | exact zPM_now hV (fun x y q _ => zup_n _ _ (by omega)) (zmJ_r _) (by rw [Nat.add_assoc]; exact vW_up hW) (zset1_bN hb (zset1_bSk hB hk hx1) (by omega) (by omega)) (zset1_bG hG (by omega)) (by rw [fmark, zC_y b2 b4 ha hbb, zR_y (by decide) hx1, Nat.add_assoc])
            | fail
  · skip
    try dsimp only [zov, Option.toList, List.cons_append, List.nil_append]
    first | refine z_if_neN (pc := 6) (tgt := 11) (by with_reducible rfl) dX10_mark_6 (by decide) (by omega) (fun hb6 => absurd hb6 (by decide)) (fun hb6 => ?_) | refine z_if_ne (pc := 6) (tgt := 11) dX10_mark_6 (by decide) (fun hb6 => absurd hb6 (by decide)) (fun hb6 => ?_)
    · skip
      refine z_iconst (pc := 9) (v := -1) dX10_mark_9 (by decide) ?_
      refine z_iret (pc := 10) dX10_mark_10 rfl ?_
      first
        | exact zPM_same hV (by rw [fmark, zC_n hc])
        | exact zPM_same hV (by rw [fmark, zC_y b2 b4 ha hbb, zR_n (isR_no hx)])
        | exact zPM_now hV (fun x y q _ => zup_n _ _ (by omega)) (zmJ_r _) (by rw [Nat.add_assoc]; exact vW_up hW) (zset1_bN hb (zset1_bSk hB hk hx1) (by omega) (by omega)) (zset1_bG hG (by omega)) (by rw [fmark, zC_y b2 b4 ha hbb, zR_y (by decide) hx1, Nat.add_assoc])
        | fail
set_option maxHeartbeats 2000000 in
set_option maxRecDepth 20000 in
theorem c_X10_margin {lay : List zL} {I : zI} {J : zJ} {S : zS} (hM : kM lay) (hV : vM I J S) {w l v : Int32} : zMet lay MX10_margin 2 [.ref 79, .int w, .int l, .int v] I J (fun r I' J' => zPM I J (fmargin S w l v) r I' J') := by
  refine zMet_of (t := MX10_margin) (ls := [.ref 79, .int w, .int l, .int v]) (by decide +kernel) (Nat.le_of_ble_eq_true rfl) rfl ?_
  obtain ⟨mo, m80, m81, m82, m83, m84, m85, m86, m87, m88, m89, m90, m91, m92, m93, m94, m95, m96⟩ := id hM
  have hW : vW I S.n := hV.1.1
  have hb := hV.1.2.1
  have hG := hV.1.2.2
  have hB := hb.1
  have hT := hb.2.1
  obtain ⟨b1, b2, b3, b4, b5, b6, b7, b8⟩ := id hB
  refine z_aload_n (pc := 0) dX10_margin_0 rfl rfl ?_
  refine z_iload_n (pc := 1) dX10_margin_1 rfl rfl ?_
  refine z_iload_n (pc := 2) dX10_margin_2 rfl rfl ?_
  refine z_callV (pc := 3) (c_X10_isLine hM hW hB) dX10_margin_3 l_RX10_97 m_MX10_isLine n_MX10_isLine e_MX10_isLine rfl (by omega) (by assumption) rfl rfl (Nat.le_of_ble_eq_true rfl) ?_
  rintro _ _ _ ⟨⟨rfl, hc⟩ | ⟨rfl, hc⟩, rfl, rfl⟩
  · obtain ⟨a, b, rfl, rfl, ha, hbb⟩ := hc; have hz := zlines_le (w := a) b2 b4; have hk : 3 * a + b < 9 := (by omega)
    try dsimp only [zov, Option.toList, List.cons_append, List.nil_append]
    first | refine z_if_neN (pc := 6) (tgt := 11) (by with_reducible rfl) dX10_margin_6 (by decide) (by omega) (fun hb6 => ?_) (fun hb6 => absurd hb6 (by decide)) | refine z_if_ne (pc := 6) (tgt := 11) dX10_margin_6 (by decide) (fun hb6 => ?_) (fun hb6 => absurd hb6 (by decide))
    · skip
      refine z_iload_n (pc := 11) dX10_margin_11 rfl rfl ?_
      first | refine z_i2lN (pc := 12) (by with_reducible rfl) dX10_margin_12 (by omega) ?_ | refine z_i2l (pc := 12) dX10_margin_12 rfl ?_
      refine z_lconst (pc := 13) (v := lN 0) dX10_margin_13 rfl ?_
      refine z_ldc2 (pc := 14) (v := lN 60) dX10_margin_14 q_RX10_100 ?_
      refine z_callS (pc := 17) (c_X10_withinI (by omega) (by omega)) dX10_margin_17 l_RX10_68 m_MX10_within s_MX10_within rfl (by omega) rfl (Nat.le_of_ble_eq_true rfl) ?_
      rintro _ _ _ ⟨⟨rfl, hx⟩ | ⟨rfl, hx⟩, rfl, rfl⟩
      · obtain ⟨x, rfl, hx0, hx1⟩ := hx
        try dsimp only [zov, Option.toList, List.cons_append, List.nil_append]
        first | refine z_if_eqN (pc := 20) (tgt := 39) (by with_reducible rfl) dX10_margin_20 (by decide) (by omega) (fun hb20 => absurd hb20 (by decide)) (fun hb20 => ?_) | refine z_if_eq (pc := 20) (tgt := 39) dX10_margin_20 (by decide) (fun hb20 => absurd hb20 (by decide)) (fun hb20 => ?_)
        · skip
          refine z_aload_n (pc := 23) dX10_margin_23 rfl rfl ?_
          refine z_bipush (pc := 24) (v := nI 25) dX10_margin_24 (by decide) ?_
          refine z_iconst (pc := 26) (v := nI 3) dX10_margin_26 (by decide) ?_
          refine z_iload_n (pc := 27) dX10_margin_27 rfl rfl ?_
          first | refine z_imulN (pc := 28) (by with_reducible rfl) (by with_reducible rfl) dX10_margin_28 ?_ | refine z_imul (pc := 28) dX10_margin_28 ?_
          first | refine z_iaddN (pc := 29) (by with_reducible rfl) (by with_reducible rfl) dX10_margin_29 ?_ | refine z_iadd (pc := 29) dX10_margin_29 ?_
          refine z_iload_n (pc := 30) dX10_margin_30 rfl rfl ?_
          first | refine z_iaddN (pc := 31) (by with_reducible rfl) (by with_reducible rfl) dX10_margin_31 ?_ | refine z_iadd (pc := 31) dX10_margin_31 ?_
          refine z_iload_n (pc := 32) dX10_margin_32 rfl rfl ?_
          refine z_callV (pc := 33) (c_X10_becomes hM hW (by omega)) dX10_margin_33 l_RX10_94 m_MX10_becomes n_MX10_becomes e_MX10_becomes rfl (by omega) (by assumption) rfl rfl (Nat.le_of_ble_eq_true rfl) ?_
          rintro _ _ _ (⟨rfl, rfl, rfl⟩)
          try dsimp only [zov, Option.toList, List.cons_append, List.nil_append]
          refine z_goto (pc := 36) (tgt := 41) dX10_margin_36 (by decide) ?_
          refine z_iret (pc := 41) dX10_margin_41 rfl ?_
          first
            | exact zPM_same hV (by rw [fmargin, zLn_n hc])
            | exact zPM_same hV (by rw [fmargin, zLn_y b2 b4 ha hbb, zR_n (isR_no hx)])
            | exact zPM_now hV (fun x y q _ => zup_n _ _ (by omega)) (zmJ_r _) (by rw [Nat.add_assoc]; exact vW_up hW) (zset1_bN hb (zset1_bSm hB hk hx1) (by omega) (by omega)) (zset1_bG hG (by omega)) (by rw [fmargin, zLn_y b2 b4 ha hbb, zR_y (by decide) hx1, Nat.add_assoc])
            | fail
      · skip
        try dsimp only [zov, Option.toList, List.cons_append, List.nil_append]
        first | refine z_if_eqN (pc := 20) (tgt := 39) (by with_reducible rfl) dX10_margin_20 (by decide) (by omega) (fun hb20 => ?_) (fun hb20 => absurd hb20 (by decide)) | refine z_if_eq (pc := 20) (tgt := 39) dX10_margin_20 (by decide) (fun hb20 => ?_) (fun hb20 => absurd hb20 (by decide))
        · skip
          refine z_bipush (pc := 39) (v := -2) dX10_margin_39 (by decide) ?_
          refine z_iret (pc := 41) dX10_margin_41 rfl ?_
          first
            | exact zPM_same hV (by rw [fmargin, zLn_n hc])
            | exact zPM_same hV (by rw [fmargin, zLn_y b2 b4 ha hbb, zR_n (isR_no hx)])
            | exact zPM_now hV (fun x y q _ => zup_n _ _ (by omega)) (zmJ_r _) (by rw [Nat.add_assoc]; exact vW_up hW) (zset1_bN hb (zset1_bSm hB hk hx1) (by omega) (by omega)) (zset1_bG hG (by omega)) (by rw [fmargin, zLn_y b2 b4 ha hbb, zR_y (by decide) hx1, Nat.add_assoc])
            | fail
  · skip
    try dsimp only [zov, Option.toList, List.cons_append, List.nil_append]
    first | refine z_if_neN (pc := 6) (tgt := 11) (by with_reducible rfl) dX10_margin_6 (by decide) (by omega) (fun hb6 => absurd hb6 (by decide)) (fun hb6 => ?_) | refine z_if_ne (pc := 6) (tgt := 11) dX10_margin_6 (by decide) (fun hb6 => absurd hb6 (by decide)) (fun hb6 => ?_)
    · skip
      refine z_iconst (pc := 9) (v := -1) dX10_margin_9 (by decide) ?_
      refine z_iret (pc := 10) dX10_margin_10 rfl ?_
      first
        | exact zPM_same hV (by rw [fmargin, zLn_n hc])
        | exact zPM_same hV (by rw [fmargin, zLn_y b2 b4 ha hbb, zR_n (isR_no hx)])
        | exact zPM_now hV (fun x y q _ => zup_n _ _ (by omega)) (zmJ_r _) (by rw [Nat.add_assoc]; exact vW_up hW) (zset1_bN hb (zset1_bSm hB hk hx1) (by omega) (by omega)) (zset1_bG hG (by omega)) (by rw [fmargin, zLn_y b2 b4 ha hbb, zR_y (by decide) hx1, Nat.add_assoc])
        | fail
set_option maxHeartbeats 2000000 in
set_option maxRecDepth 20000 in
theorem c_X10_three {lay : List zL} {I : zI} {J : zJ} {S : zS} (hM : kM lay) (hV : vM I J S) {x : Nat} (hx : x ≤ 1) : zMet lay MX10_three 2 [.ref 79, .int (nI x)] I J (fun r I' J' => zPM I J (fthree S x) r I' J') := by
  refine zMet_of (t := MX10_three) (ls := [.ref 79, .int (nI x)]) (by decide +kernel) (Nat.le_of_ble_eq_true rfl) rfl ?_
  obtain ⟨mo, m80, m81, m82, m83, m84, m85, m86, m87, m88, m89, m90, m91, m92, m93, m94, m95, m96⟩ := id hM
  have hW : vW I S.n := hV.1.1
  have hb := hV.1.2.1
  have hG := hV.1.2.2
  have hB := hb.1
  have hT := hb.2.1
  obtain ⟨b1, b2, b3, b4, b5, b6, b7, b8⟩ := id hB
  refine z_aload_n (pc := 0) dX10_three_0 rfl rfl ?_
  refine z_iconst (pc := 1) (v := nI 2) dX10_three_1 (by decide) ?_
  refine z_iload_n (pc := 2) dX10_three_2 rfl rfl ?_
  first | refine z_if_eqN (pc := 3) (tgt := 10) (by with_reducible rfl) dX10_three_3 (by decide) (by omega) (fun hb3 => ?_) (fun hb3 => ?_) | refine z_if_eq (pc := 3) (tgt := 10) dX10_three_3 (by decide) (fun hb3 => ?_) (fun hb3 => ?_)
  · skip
    refine z_iconst (pc := 10) (v := nI 0) dX10_three_10 (by decide) ?_
    refine z_callV (pc := 11) (c_X10_becomes hM hW (by omega)) dX10_three_11 l_RX10_94 m_MX10_becomes n_MX10_becomes e_MX10_becomes rfl (by omega) (by assumption) rfl rfl (Nat.le_of_ble_eq_true rfl) ?_
    rintro _ _ _ (⟨rfl, rfl, rfl⟩)
    try dsimp only [zov, Option.toList, List.cons_append, List.nil_append]
    refine z_iret (pc := 14) dX10_three_14 rfl ?_
    first
      | (rw [show x = 0 by omega]; exact zPM_now hV (fun x y q _ => zup_n _ _ (by omega)) (zmJ_r _) (vW_up hW) (zset1_bN hb (zset1_bS2 hB (by omega)) (by omega) (by omega)) (zset1_bG hG (by omega)) rfl)
      | (rw [show x = 1 by omega]; exact zPM_now hV (fun x y q _ => zup_n _ _ (by omega)) (zmJ_r _) (vW_up hW) (zset1_bN hb (zset1_bS2 hB (by omega)) (by omega) (by omega)) (zset1_bG hG (by omega)) rfl)
      | fail
  · skip
    refine z_iconst (pc := 6) (v := nI 1) dX10_three_6 (by decide) ?_
    refine z_goto (pc := 7) (tgt := 11) dX10_three_7 (by decide) ?_
    refine z_callV (pc := 11) (c_X10_becomes hM hW (by omega)) dX10_three_11 l_RX10_94 m_MX10_becomes n_MX10_becomes e_MX10_becomes rfl (by omega) (by assumption) rfl rfl (Nat.le_of_ble_eq_true rfl) ?_
    rintro _ _ _ (⟨rfl, rfl, rfl⟩)
    try dsimp only [zov, Option.toList, List.cons_append, List.nil_append]
    refine z_iret (pc := 14) dX10_three_14 rfl ?_
    first
      | (rw [show x = 0 by omega]; exact zPM_now hV (fun x y q _ => zup_n _ _ (by omega)) (zmJ_r _) (vW_up hW) (zset1_bN hb (zset1_bS2 hB (by omega)) (by omega) (by omega)) (zset1_bG hG (by omega)) rfl)
      | (rw [show x = 1 by omega]; exact zPM_now hV (fun x y q _ => zup_n _ _ (by omega)) (zmJ_r _) (vW_up hW) (zset1_bN hb (zset1_bS2 hB (by omega)) (by omega) (by omega)) (zset1_bG hG (by omega)) rfl)
      | fail
theorem fof_0 {S : zS} {i j : Int32} {k : Nat} (h : zC (S.n 0) (S.n 1) i j = some k) : fof S i j (nI 0) = (.int (nI (S.n (7 + k))), S) := by rw [fof, h]; rfl
theorem fof_1 {S : zS} {i j : Int32} {k : Nat} (h : zC (S.n 0) (S.n 1) i j = some k) : fof S i j (nI 1) = (.int (nI (S.n (16 + k))), S) := by rw [fof, h]; rfl
theorem fof_n {S : zS} {i j w : Int32} (h : ¬ isR 1 w) : fof S i j w = (.int (-1), S) := by
  rw [fof]
  cases zC (S.n 0) (S.n 1) i j with
  | none => rfl
  | some k =>
    dsimp only
    rw [if_neg (fun e => h ⟨0, e, by omega⟩), if_neg (fun e => h ⟨1, e, by omega⟩)]
theorem isR_no2 {M : Nat} {x : Int32} (h : ¬ ∃ k, x = nI k ∧ 0 ≤ k ∧ k ≤ M) : ¬ isR M x := isR_no h
set_option maxHeartbeats 2000000 in
set_option maxRecDepth 20000 in
theorem c_X10_of {lay : List zL} {I : zI} {J : zJ} {S : zS} (hM : kM lay) (hV : vM I J S) {i j w : Int32} : zMet lay MX10_of 2 [.ref 79, .int i, .int j, .int w] I J (fun r I' J' => zPM I J (fof S i j w) r I' J') := by
  refine zMet_of (t := MX10_of) (ls := [.ref 79, .int i, .int j, .int w]) (by decide +kernel) (Nat.le_of_ble_eq_true rfl) rfl ?_
  obtain ⟨mo, m80, m81, m82, m83, m84, m85, m86, m87, m88, m89, m90, m91, m92, m93, m94, m95, m96⟩ := id hM
  have hW : vW I S.n := hV.1.1
  have hb := hV.1.2.1
  have hG := hV.1.2.2
  have hB := hb.1
  have hT := hb.2.1
  obtain ⟨b1, b2, b3, b4, b5, b6, b7, b8⟩ := id hB
  refine z_aload_n (pc := 0) dX10_of_0 rfl rfl ?_
  refine z_iload_n (pc := 1) dX10_of_1 rfl rfl ?_
  refine z_iload_n (pc := 2) dX10_of_2 rfl rfl ?_
  refine z_callV (pc := 3) (c_X10_isCell hM hW hB) dX10_of_3 l_RX10_72 m_MX10_isCell n_MX10_isCell e_MX10_isCell rfl (by omega) (by assumption) rfl rfl (Nat.le_of_ble_eq_true rfl) ?_
  rintro _ _ _ ⟨⟨rfl, hc⟩ | ⟨rfl, hc⟩, rfl, rfl⟩
  · obtain ⟨a, b, rfl, rfl, ha, hbb⟩ := hc; have hk : 3 * a + b < 9 := (by omega); have ea : 3 * a + b = 3 * a + b := rfl
    try dsimp only [zov, Option.toList, List.cons_append, List.nil_append]
    first | refine z_if_eqN (pc := 6) (tgt := 19) (by with_reducible rfl) dX10_of_6 (by decide) (by omega) (fun hb6 => absurd hb6 (by decide)) (fun hb6 => ?_) | refine z_if_eq (pc := 6) (tgt := 19) dX10_of_6 (by decide) (fun hb6 => absurd hb6 (by decide)) (fun hb6 => ?_)
    · skip
      refine z_iload_n (pc := 9) dX10_of_9 rfl rfl ?_
      first | refine z_i2lN (pc := 10) (by with_reducible rfl) dX10_of_10 (by omega) ?_ | refine z_i2l (pc := 10) dX10_of_10 rfl ?_
      refine z_lconst (pc := 11) (v := lN 0) dX10_of_11 rfl ?_
      refine z_lconst (pc := 12) (v := lN 1) dX10_of_12 rfl ?_
      refine z_callS (pc := 13) (c_X10_withinI (by omega) (by omega)) dX10_of_13 l_RX10_68 m_MX10_within s_MX10_within rfl (by omega) rfl (Nat.le_of_ble_eq_true rfl) ?_
      rintro _ _ _ ⟨⟨rfl, hx⟩ | ⟨rfl, hx⟩, rfl, rfl⟩
      · obtain ⟨x, rfl, hx0, hx1⟩ := hx
        try dsimp only [zov, Option.toList, List.cons_append, List.nil_append]
        first | refine z_if_neN (pc := 16) (tgt := 21) (by with_reducible rfl) dX10_of_16 (by decide) (by omega) (fun hb16 => ?_) (fun hb16 => absurd hb16 (by decide)) | refine z_if_ne (pc := 16) (tgt := 21) dX10_of_16 (by decide) (fun hb16 => ?_) (fun hb16 => absurd hb16 (by decide))
        · skip
          refine z_aload_n (pc := 21) dX10_of_21 rfl rfl ?_
          refine z_getR (pc := 22) dX10_of_22 f_RX10_11 (by assumption) rfl ?_
          refine z_iload_n (pc := 25) dX10_of_25 rfl rfl ?_
          first | refine z_if_neN (pc := 26) (tgt := 34) (by with_reducible rfl) dX10_of_26 (by decide) (by omega) (fun hb26 => ?_) (fun hb26 => ?_) | refine z_if_ne (pc := 26) (tgt := 34) dX10_of_26 (by decide) (fun hb26 => ?_) (fun hb26 => ?_)
          · skip
            refine z_bipush (pc := 34) (v := nI 16) dX10_of_34 (by decide) ?_
            refine z_iconst (pc := 36) (v := nI 3) dX10_of_36 (by decide) ?_
            refine z_iload_n (pc := 37) dX10_of_37 rfl rfl ?_
            first | refine z_imulN (pc := 38) (by with_reducible rfl) (by with_reducible rfl) dX10_of_38 ?_ | refine z_imul (pc := 38) dX10_of_38 ?_
            first | refine z_iaddN (pc := 39) (by with_reducible rfl) (by with_reducible rfl) dX10_of_39 ?_ | refine z_iadd (pc := 39) dX10_of_39 ?_
            refine z_iload_n (pc := 40) dX10_of_40 rfl rfl ?_
            first | refine z_iaddN (pc := 41) (by with_reducible rfl) (by with_reducible rfl) dX10_of_41 ?_ | refine z_iadd (pc := 41) dX10_of_41 ?_
            refine z_ialoadv (pc := 42) dX10_of_42 (by assumption) (by with_reducible rfl) (by omega) (by decide) (by first | assumption | exact hW _ (by omega) | rfl) ?_
            refine z_iret (pc := 43) dX10_of_43 rfl ?_
            first
              | exact zPM_same hV (by rw [fof, zC_n hc])
              | exact zPM_same hV (fof_n (isR_no hx))
              | (rw [show x = 0 by omega]; exact zPM_same hV (by rw [Nat.add_assoc]; exact fof_0 (zC_y b2 b4 ha hbb)))
              | (rw [show x = 1 by omega]; exact zPM_same hV (by rw [Nat.add_assoc]; exact fof_1 (zC_y b2 b4 ha hbb)))
              | fail
          · skip
            refine z_bipush (pc := 29) (v := nI 7) dX10_of_29 (by decide) ?_
            refine z_goto (pc := 31) (tgt := 36) dX10_of_31 (by decide) ?_
            refine z_iconst (pc := 36) (v := nI 3) dX10_of_36 (by decide) ?_
            refine z_iload_n (pc := 37) dX10_of_37 rfl rfl ?_
            first | refine z_imulN (pc := 38) (by with_reducible rfl) (by with_reducible rfl) dX10_of_38 ?_ | refine z_imul (pc := 38) dX10_of_38 ?_
            first | refine z_iaddN (pc := 39) (by with_reducible rfl) (by with_reducible rfl) dX10_of_39 ?_ | refine z_iadd (pc := 39) dX10_of_39 ?_
            refine z_iload_n (pc := 40) dX10_of_40 rfl rfl ?_
            first | refine z_iaddN (pc := 41) (by with_reducible rfl) (by with_reducible rfl) dX10_of_41 ?_ | refine z_iadd (pc := 41) dX10_of_41 ?_
            refine z_ialoadv (pc := 42) dX10_of_42 (by assumption) (by with_reducible rfl) (by omega) (by decide) (by first | assumption | exact hW _ (by omega) | rfl) ?_
            refine z_iret (pc := 43) dX10_of_43 rfl ?_
            first
              | exact zPM_same hV (by rw [fof, zC_n hc])
              | exact zPM_same hV (fof_n (isR_no hx))
              | (rw [show x = 0 by omega]; exact zPM_same hV (by rw [Nat.add_assoc]; exact fof_0 (zC_y b2 b4 ha hbb)))
              | (rw [show x = 1 by omega]; exact zPM_same hV (by rw [Nat.add_assoc]; exact fof_1 (zC_y b2 b4 ha hbb)))
              | fail
      · skip
        try dsimp only [zov, Option.toList, List.cons_append, List.nil_append]
        first | refine z_if_neN (pc := 16) (tgt := 21) (by with_reducible rfl) dX10_of_16 (by decide) (by omega) (fun hb16 => absurd hb16 (by decide)) (fun hb16 => ?_) | refine z_if_ne (pc := 16) (tgt := 21) dX10_of_16 (by decide) (fun hb16 => absurd hb16 (by decide)) (fun hb16 => ?_)
        · skip
          refine z_iconst (pc := 19) (v := -1) dX10_of_19 (by decide) ?_
          refine z_iret (pc := 20) dX10_of_20 rfl ?_
          first
            | exact zPM_same hV (by rw [fof, zC_n hc])
            | exact zPM_same hV (fof_n (isR_no hx))
            | (rw [show x = 0 by omega]; exact zPM_same hV (by rw [Nat.add_assoc]; exact fof_0 (zC_y b2 b4 ha hbb)))
            | (rw [show x = 1 by omega]; exact zPM_same hV (by rw [Nat.add_assoc]; exact fof_1 (zC_y b2 b4 ha hbb)))
            | fail
  · skip
    try dsimp only [zov, Option.toList, List.cons_append, List.nil_append]
    first | refine z_if_eqN (pc := 6) (tgt := 19) (by with_reducible rfl) dX10_of_6 (by decide) (by omega) (fun hb6 => ?_) (fun hb6 => absurd hb6 (by decide)) | refine z_if_eq (pc := 6) (tgt := 19) dX10_of_6 (by decide) (fun hb6 => ?_) (fun hb6 => absurd hb6 (by decide))
    · skip
      refine z_iconst (pc := 19) (v := -1) dX10_of_19 (by decide) ?_
      refine z_iret (pc := 20) dX10_of_20 rfl ?_
      first
        | exact zPM_same hV (by rw [fof, zC_n hc])
        | exact zPM_same hV (fof_n (isR_no hx))
        | (rw [show x = 0 by omega]; exact zPM_same hV (by rw [Nat.add_assoc]; exact fof_0 (zC_y b2 b4 ha hbb)))
        | (rw [show x = 1 by omega]; exact zPM_same hV (by rw [Nat.add_assoc]; exact fof_1 (zC_y b2 b4 ha hbb)))
        | fail
set_option maxHeartbeats 2000000 in
set_option maxRecDepth 20000 in
theorem c_X10_marginOf {lay : List zL} {I : zI} {J : zJ} {S : zS} (hM : kM lay) (hV : vM I J S) {w l : Int32} : zMet lay MX10_marginOf 2 [.ref 79, .int w, .int l] I J (fun r I' J' => zPM I J (fmarginOf S w l) r I' J') := by
  refine zMet_of (t := MX10_marginOf) (ls := [.ref 79, .int w, .int l]) (by decide +kernel) (Nat.le_of_ble_eq_true rfl) rfl ?_
  obtain ⟨mo, m80, m81, m82, m83, m84, m85, m86, m87, m88, m89, m90, m91, m92, m93, m94, m95, m96⟩ := id hM
  have hW : vW I S.n := hV.1.1
  have hb := hV.1.2.1
  have hG := hV.1.2.2
  have hB := hb.1
  have hT := hb.2.1
  obtain ⟨b1, b2, b3, b4, b5, b6, b7, b8⟩ := id hB
  refine z_aload_n (pc := 0) dX10_marginOf_0 rfl rfl ?_
  refine z_iload_n (pc := 1) dX10_marginOf_1 rfl rfl ?_
  refine z_iload_n (pc := 2) dX10_marginOf_2 rfl rfl ?_
  refine z_callV (pc := 3) (c_X10_isLine hM hW hB) dX10_marginOf_3 l_RX10_97 m_MX10_isLine n_MX10_isLine e_MX10_isLine rfl (by omega) (by assumption) rfl rfl (Nat.le_of_ble_eq_true rfl) ?_
  rintro _ _ _ ⟨⟨rfl, hc⟩ | ⟨rfl, hc⟩, rfl, rfl⟩
  · obtain ⟨a, b, rfl, rfl, ha, hbb⟩ := hc; have hz := zlines_le (w := a) b2 b4; have hk : 3 * a + b < 9 := (by omega)
    try dsimp only [zov, Option.toList, List.cons_append, List.nil_append]
    first | refine z_if_eqN (pc := 6) (tgt := 18) (by with_reducible rfl) dX10_marginOf_6 (by decide) (by omega) (fun hb6 => absurd hb6 (by decide)) (fun hb6 => ?_) | refine z_if_eq (pc := 6) (tgt := 18) dX10_marginOf_6 (by decide) (fun hb6 => absurd hb6 (by decide)) (fun hb6 => ?_)
    · skip
      refine z_aload_n (pc := 9) dX10_marginOf_9 rfl rfl ?_
      refine z_iload_n (pc := 10) dX10_marginOf_10 rfl rfl ?_
      refine z_iload_n (pc := 11) dX10_marginOf_11 rfl rfl ?_
      refine z_callV (pc := 12) (c_X10_marginAt hM hW (by omega) (by omega)) dX10_marginOf_12 l_RX10_102 m_MX10_marginAt n_MX10_marginAt e_MX10_marginAt rfl (by omega) (by assumption) rfl rfl (Nat.le_of_ble_eq_true rfl) ?_
      rintro _ _ _ (⟨rfl, rfl, rfl⟩)
      try dsimp only [zov, Option.toList, List.cons_append, List.nil_append]
      refine z_goto (pc := 15) (tgt := 19) dX10_marginOf_15 (by decide) ?_
      refine z_iret (pc := 19) dX10_marginOf_19 rfl ?_
      first
        | exact zPM_same hV (by rw [fmarginOf, zLn_n hc])
        | exact zPM_same hV (by rw [fmarginOf, zLn_y b2 b4 ha hbb])
        | fail
  · skip
    try dsimp only [zov, Option.toList, List.cons_append, List.nil_append]
    first | refine z_if_eqN (pc := 6) (tgt := 18) (by with_reducible rfl) dX10_marginOf_6 (by decide) (by omega) (fun hb6 => ?_) (fun hb6 => absurd hb6 (by decide)) | refine z_if_eq (pc := 6) (tgt := 18) dX10_marginOf_6 (by decide) (fun hb6 => ?_) (fun hb6 => absurd hb6 (by decide))
    · skip
      refine z_iconst (pc := 18) (v := -1) dX10_marginOf_18 (by decide) ?_
      refine z_iret (pc := 19) dX10_marginOf_19 rfl ?_
      first
        | exact zPM_same hV (by rw [fmarginOf, zLn_n hc])
        | exact zPM_same hV (by rw [fmarginOf, zLn_y b2 b4 ha hbb])
        | fail
theorem vM_text {I I' : zI} {J : zJ} {S : zS} {len : Nat} {tx : Nat → Nat} (h : vM I J S) (hI : ∀ x y, x ≠ 83 → (x = 79 → y ≠ 5) → (x ≠ 84) → I' x y = I x y) (hx : vMT I' len tx) : vM I' J (S.upX len tx) := by
  obtain ⟨⟨q1, q2⟩, ⟨q4, q5, q6⟩, q7, q8⟩ := h
  refine ⟨⟨vW_to q1 (fun y => hI 80 y (by omega) (by omega) (by omega)), q2⟩, ⟨(hI 79 3 (by omega) (by omega) (by omega)).trans q4, q5, fun h1 => ⟨fun k hk => (hI 81 k (by omega) (by omega) (by omega)).trans ((q6 h1).1 k hk), (q6 h1).2⟩⟩, hx, vMQ_to q8 (fun y => hI 93 y (by omega) (by omega) (by omega)) (fun y => hI 94 y (by omega) (by omega) (by omega)) (fun y => rfl)⟩
set_option maxHeartbeats 2000000 in
set_option maxRecDepth 20000 in
theorem c_X10_feed {lay : List zL} {I : zI} {J : zJ} {S : zS} (hM : kM lay) (hV : vM I J S) {c : Int32} : zMet lay MX10_feed 2 [.ref 79, .int c] I J (fun r I' J' => zPM I J (ffeed S c) r I' J') := by
  refine zMet_of (t := MX10_feed) (ls := [.ref 79, .int c]) (by decide +kernel) (Nat.le_of_ble_eq_true rfl) rfl ?_
  obtain ⟨mo, m80, m81, m82, m83, m84, m85, m86, m87, m88, m89, m90, m91, m92, m93, m94, m95, m96⟩ := id hM
  have hW : vW I S.n := hV.1.1
  have hb := hV.1.2.1
  have hG := hV.1.2.2
  have hB := hb.1
  have hT := hb.2.1
  obtain ⟨b1, b2, b3, b4, b5, b6, b7, b8⟩ := id hB
  have hX := hV.2.2.1
  obtain ⟨x1, x2, x3, x4⟩ := id hX
  have hl5 : ∀ v, zup I 83 S.len v 79 5 = nI S.len := fun v => by rw [zup_n _ _ (by omega)]; exact x1
  refine z_iload_n (pc := 0) dX10_feed_0 rfl rfl ?_
  first | refine z_i2lN (pc := 1) (by with_reducible rfl) dX10_feed_1 (by omega) ?_ | refine z_i2l (pc := 1) dX10_feed_1 rfl ?_
  refine z_lconst (pc := 2) (v := lN 0) dX10_feed_2 rfl ?_
  refine z_ldc2 (pc := 3) (v := lN 127) dX10_feed_3 q_RX10_105 ?_
  refine z_callS (pc := 6) (c_X10_withinI (by omega) (by omega)) dX10_feed_6 l_RX10_68 m_MX10_within s_MX10_within rfl (by omega) rfl (Nat.le_of_ble_eq_true rfl) ?_
  rintro _ _ _ ⟨⟨rfl, hx⟩ | ⟨rfl, hx⟩, rfl, rfl⟩
  · obtain ⟨x, rfl, hx0, hx1⟩ := hx
    try dsimp only [zov, Option.toList, List.cons_append, List.nil_append]
    first | refine z_if_neN (pc := 9) (tgt := 15) (by with_reducible rfl) dX10_feed_9 (by decide) (by omega) (fun hb9 => ?_) (fun hb9 => absurd hb9 (by decide)) | refine z_if_ne (pc := 9) (tgt := 15) dX10_feed_9 (by decide) (fun hb9 => ?_) (fun hb9 => absurd hb9 (by decide))
    · skip
      refine z_aload_n (pc := 15) dX10_feed_15 rfl rfl ?_
      refine z_getIv (pc := 16) dX10_feed_16 f_RX10_107 (by assumption) rfl (by first | assumption | exact hl5 _ | exact zup_s _ _ _ _ | rfl) ?_
      refine z_bipush (pc := 19) (v := nI 100) dX10_feed_19 (by decide) ?_
      first | refine z_icmp_neN (pc := 21) (tgt := 27) (by with_reducible rfl) (by with_reducible rfl) dX10_feed_21 (by decide) (by omega) (by omega) (fun hb21 => ?_) (fun hb21 => ?_) | refine z_icmp_ne (pc := 21) (tgt := 27) dX10_feed_21 (by decide) (fun hb21 => ?_) (fun hb21 => ?_)
      · skip
        refine z_aload_n (pc := 27) dX10_feed_27 rfl rfl ?_
        refine z_getR (pc := 28) dX10_feed_28 f_RX10_21 (by assumption) rfl ?_
        refine z_aload_n (pc := 31) dX10_feed_31 rfl rfl ?_
        refine z_getIv (pc := 32) dX10_feed_32 f_RX10_107 (by assumption) rfl (by first | assumption | exact hl5 _ | exact zup_s _ _ _ _ | rfl) ?_
        refine z_iload_n (pc := 35) dX10_feed_35 rfl rfl ?_
        refine z_iastore (pc := 36) dX10_feed_36 (by assumption) (by with_reducible rfl) (by omega) (by decide) ?_
        refine z_aload_n (pc := 37) dX10_feed_37 rfl rfl ?_
        refine z_dup (pc := 38) dX10_feed_38 rfl ?_
        refine z_getIv (pc := 39) dX10_feed_39 f_RX10_107 (by assumption) rfl (by first | assumption | exact hl5 _ | exact zup_s _ _ _ _ | rfl) ?_
        refine z_iconst (pc := 42) (v := nI 1) dX10_feed_42 (by decide) ?_
        first | refine z_iaddN (pc := 43) (by with_reducible rfl) (by with_reducible rfl) dX10_feed_43 ?_ | refine z_iadd (pc := 43) dX10_feed_43 ?_
        refine z_putI (pc := 44) dX10_feed_44 f_RX10_107 (by assumption) rfl ?_
        refine z_aload_n (pc := 47) dX10_feed_47 rfl rfl ?_
        refine z_getIv (pc := 48) dX10_feed_48 f_RX10_107 (by assumption) rfl (by first | assumption | exact hl5 _ | exact zup_s _ _ _ _ | rfl) ?_
        refine z_iret (pc := 51) dX10_feed_51 rfl ?_
        first
          | exact zPM_same hV (by rw [ffeed, zR_n (isR_no hx)])
          | exact zPM_same hV (by rw [ffeed, zR_y (by decide) hx1]; exact if_pos hb21)
          | (refine ⟨?_, ?_, fun y hy => ?_, fun _ _ => rfl⟩
             · rw [ffeed, zR_y (by decide) hx1]; dsimp only; rw [if_neg hb21]
             · rw [ffeed, zR_y (by decide) hx1]; dsimp only; rw [if_neg hb21]
               refine vM_text hV (fun x y h1 h2 _ => by rw [zup_n _ _ (by omega), zup_n _ _ (by omega)]) ⟨zup_s _ _ _ _, by omega, fun k hk => ?_, fun k hk => ?_⟩
               · rw [zup_n _ _ (by omega)]
                 by_cases e : k = S.len
                 · rw [e, zset1_s]; exact zup_s _ _ _ _
                 · rw [zset1_o e, zup_n _ _ (by omega)]; exact x3 k (by omega)
               · by_cases e : k = S.len
                 · rw [e, zset1_s]; exact hx1
                 · rw [zset1_o e]; exact x4 k (by omega)
             · rw [zup_o (by omega), zup_o (by omega)])
          | fail
      · skip
        refine z_bipush (pc := 24) (v := -4) dX10_feed_24 (by decide) ?_
        refine z_iret (pc := 26) dX10_feed_26 rfl ?_
        first
          | exact zPM_same hV (by rw [ffeed, zR_n (isR_no hx)])
          | exact zPM_same hV (by rw [ffeed, zR_y (by decide) hx1]; exact if_pos hb21)
          | (refine ⟨?_, ?_, fun y hy => ?_, fun _ _ => rfl⟩
             · rw [ffeed, zR_y (by decide) hx1]; dsimp only; rw [if_neg hb21]
             · rw [ffeed, zR_y (by decide) hx1]; dsimp only; rw [if_neg hb21]
               refine vM_text hV (fun x y h1 h2 _ => by rw [zup_n _ _ (by omega), zup_n _ _ (by omega)]) ⟨zup_s _ _ _ _, by omega, fun k hk => ?_, fun k hk => ?_⟩
               · rw [zup_n _ _ (by omega)]
                 by_cases e : k = S.len
                 · rw [e, zset1_s]; exact zup_s _ _ _ _
                 · rw [zset1_o e, zup_n _ _ (by omega)]; exact x3 k (by omega)
               · by_cases e : k = S.len
                 · rw [e, zset1_s]; exact hx1
                 · rw [zset1_o e]; exact x4 k (by omega)
             · rw [zup_o (by omega), zup_o (by omega)])
          | fail
  · skip
    try dsimp only [zov, Option.toList, List.cons_append, List.nil_append]
    first | refine z_if_neN (pc := 9) (tgt := 15) (by with_reducible rfl) dX10_feed_9 (by decide) (by omega) (fun hb9 => absurd hb9 (by decide)) (fun hb9 => ?_) | refine z_if_ne (pc := 9) (tgt := 15) dX10_feed_9 (by decide) (fun hb9 => absurd hb9 (by decide)) (fun hb9 => ?_)
    · skip
      refine z_bipush (pc := 12) (v := -2) dX10_feed_12 (by decide) ?_
      refine z_iret (pc := 14) dX10_feed_14 rfl ?_
      first
        | exact zPM_same hV (by rw [ffeed, zR_n (isR_no hx)])
        | exact zPM_same hV (by rw [ffeed, zR_y (by decide) hx1]; exact if_pos hb21)
        | (refine ⟨?_, ?_, fun y hy => ?_, fun _ _ => rfl⟩
           · rw [ffeed, zR_y (by decide) hx1]; dsimp only; rw [if_neg hb21]
           · rw [ffeed, zR_y (by decide) hx1]; dsimp only; rw [if_neg hb21]
             refine vM_text hV (fun x y h1 h2 _ => by rw [zup_n _ _ (by omega), zup_n _ _ (by omega)]) ⟨zup_s _ _ _ _, by omega, fun k hk => ?_, fun k hk => ?_⟩
             · rw [zup_n _ _ (by omega)]
               by_cases e : k = S.len
               · rw [e, zset1_s]; exact zup_s _ _ _ _
               · rw [zset1_o e, zup_n _ _ (by omega)]; exact x3 k (by omega)
             · by_cases e : k = S.len
               · rw [e, zset1_s]; exact hx1
               · rw [zset1_o e]; exact x4 k (by omega)
           · rw [zup_o (by omega), zup_o (by omega)])
        | fail
theorem fcell_0 {S : zS} {i j : Int32} {k : Nat} (h : zC (S.n 0) (S.n 1) i j = some k) : fcell S i j (nI 0) = (.long (lN (S.n (34 + k))), S) := by rw [fcell, h]; rfl
theorem fcell_1 {S : zS} {i j : Int32} {k : Nat} (h : zC (S.n 0) (S.n 1) i j = some k) : fcell S i j (nI 1) = (.long (lN (S.n (43 + k))), S) := by rw [fcell, h]; rfl
theorem fcell_n {S : zS} {i j p : Int32} (h0 : p ≠ nI 0) (h1 : p ≠ nI 1) : fcell S i j p = (.long (-9223372036854775808), S) := by
  rw [fcell]
  cases zC (S.n 0) (S.n 1) i j with
  | none => rfl
  | some k => dsimp only; rw [zpt_n h0 h1]
theorem fsum_n {S : zS} {w l p : Int32} (h0 : p ≠ nI 0) (h1 : p ≠ nI 1) : fsum S w l p = (.long (-9223372036854775808), S) := by
  rw [fsum]
  cases zLn (S.n 0) (S.n 1) w l with
  | none => rfl
  | some k =>
    dsimp only
    cases zsm S.n S.n k.1 k.2 with
    | none => rfl
    | some s => dsimp only; rw [zpt_n h0 h1]
theorem fgap_n {S : zS} {w l p : Int32} (h0 : p ≠ nI 0) (h1 : p ≠ nI 1) : fgap S w l p = (.long (-9223372036854775808), S) := by
  rw [fgap]
  cases zLn (S.n 0) (S.n 1) w l with
  | none => rfl
  | some k =>
    dsimp only
    cases zgp S.n k.1 k.2 with
    | none => rfl
    | some s => dsimp only; rw [zpt_n h0 h1]
set_option maxHeartbeats 2000000 in
set_option maxRecDepth 20000 in
theorem c_X10_cell {lay : List zL} {I : zI} {J : zJ} {S : zS} (hM : kM lay) (hV : vM I J S) {i j p : Int32} : zMet lay MX10_cell 2 [.ref 79, .int i, .int j, .int p] I J (fun r I' J' => zPM I J (fcell S i j p) r I' J') := by
  refine zMet_of (t := MX10_cell) (ls := [.ref 79, .int i, .int j, .int p]) (by decide +kernel) (Nat.le_of_ble_eq_true rfl) rfl ?_
  obtain ⟨mo, m80, m81, m82, m83, m84, m85, m86, m87, m88, m89, m90, m91, m92, m93, m94, m95, m96⟩ := id hM
  have hW : vW I S.n := hV.1.1
  have hb := hV.1.2.1
  have hG := hV.1.2.2
  have hB := hb.1
  have hT := hb.2.1
  obtain ⟨b1, b2, b3, b4, b5, b6, b7, b8⟩ := id hB
  refine z_aload_n (pc := 0) dX10_cell_0 rfl rfl ?_
  refine z_iload_n (pc := 1) dX10_cell_1 rfl rfl ?_
  refine z_iload_n (pc := 2) dX10_cell_2 rfl rfl ?_
  refine z_callV (pc := 3) (c_X10_isCell hM hW hB) dX10_cell_3 l_RX10_72 m_MX10_isCell n_MX10_isCell e_MX10_isCell rfl (by omega) (by assumption) rfl rfl (Nat.le_of_ble_eq_true rfl) ?_
  rintro _ _ _ ⟨⟨rfl, hc⟩ | ⟨rfl, hc⟩, rfl, rfl⟩
  · obtain ⟨a, b, rfl, rfl, ha, hbb⟩ := hc; have hk : 3 * a + b < 9 := (by omega); have ea : 3 * a + b = 3 * a + b := rfl
    try dsimp only [zov, Option.toList, List.cons_append, List.nil_append]
    first | refine z_if_eqN (pc := 6) (tgt := 42) (by with_reducible rfl) dX10_cell_6 (by decide) (by omega) (fun hb6 => absurd hb6 (by decide)) (fun hb6 => ?_) | refine z_if_eq (pc := 6) (tgt := 42) dX10_cell_6 (by decide) (fun hb6 => absurd hb6 (by decide)) (fun hb6 => ?_)
    · skip
      refine z_iload_n (pc := 9) dX10_cell_9 rfl rfl ?_
      refine z_callS (pc := 10) c_X10_isPart dX10_cell_10 l_RX10_187 m_MX10_isPart s_MX10_isPart rfl (by omega) rfl (Nat.le_of_ble_eq_true rfl) ?_
      rintro _ _ _ ⟨⟨rfl, rfl | rfl⟩ | ⟨rfl, hp0, hp1⟩, rfl, rfl⟩
      · skip
        try dsimp only [zov, Option.toList, List.cons_append, List.nil_append]
        first | refine z_if_eqN (pc := 13) (tgt := 42) (by with_reducible rfl) dX10_cell_13 (by decide) (by omega) (fun hb13 => absurd hb13 (by decide)) (fun hb13 => ?_) | refine z_if_eq (pc := 13) (tgt := 42) dX10_cell_13 (by decide) (fun hb13 => absurd hb13 (by decide)) (fun hb13 => ?_)
        · skip
          refine z_aload_n (pc := 16) dX10_cell_16 rfl rfl ?_
          refine z_getR (pc := 17) dX10_cell_17 f_RX10_11 (by assumption) rfl ?_
          refine z_iload_n (pc := 20) dX10_cell_20 rfl rfl ?_
          first | refine z_if_neN (pc := 21) (tgt := 29) (by with_reducible rfl) dX10_cell_21 (by decide) (by omega) (fun hb21 => ?_) (fun hb21 => ?_) | refine z_if_ne (pc := 21) (tgt := 29) dX10_cell_21 (by decide) (fun hb21 => ?_) (fun hb21 => ?_)
          · skip
            refine z_bipush (pc := 29) (v := nI 43) dX10_cell_29 (by decide) ?_
            refine z_iconst (pc := 31) (v := nI 3) dX10_cell_31 (by decide) ?_
            refine z_iload_n (pc := 32) dX10_cell_32 rfl rfl ?_
            first | refine z_imulN (pc := 33) (by with_reducible rfl) (by with_reducible rfl) dX10_cell_33 ?_ | refine z_imul (pc := 33) dX10_cell_33 ?_
            first | refine z_iaddN (pc := 34) (by with_reducible rfl) (by with_reducible rfl) dX10_cell_34 ?_ | refine z_iadd (pc := 34) dX10_cell_34 ?_
            refine z_iload_n (pc := 35) dX10_cell_35 rfl rfl ?_
            first | refine z_iaddN (pc := 36) (by with_reducible rfl) (by with_reducible rfl) dX10_cell_36 ?_ | refine z_iadd (pc := 36) dX10_cell_36 ?_
            refine z_ialoadv (pc := 37) dX10_cell_37 (by assumption) (by with_reducible rfl) (by omega) (by decide) (by first | assumption | exact hW _ (by omega) | rfl) ?_
            have hTk := hT (3 * a + b) hk; rw [← Nat.add_assoc, ← Nat.add_assoc] at hTk
            first | refine z_i2lN (pc := 38) (by with_reducible rfl) dX10_cell_38 (by omega) ?_ | refine z_i2l (pc := 38) dX10_cell_38 rfl ?_
            refine z_goto (pc := 39) (tgt := 45) dX10_cell_39 (by decide) ?_
            refine z_lret (pc := 45) dX10_cell_45 rfl ?_
            first
              | exact zPM_same hV (by rw [fcell, zC_n hc]; rfl)
              | exact zPM_same hV (fcell_n hp0 hp1)
              | exact zPM_same hV (by rw [Nat.add_assoc]; exact fcell_0 (zC_y b2 b4 ha hbb))
              | exact zPM_same hV (by rw [Nat.add_assoc]; exact fcell_1 (zC_y b2 b4 ha hbb))
              | exact absurd hb21 (by decide)
              | fail
          · skip
            refine z_bipush (pc := 24) (v := nI 34) dX10_cell_24 (by decide) ?_
            refine z_goto (pc := 26) (tgt := 31) dX10_cell_26 (by decide) ?_
            refine z_iconst (pc := 31) (v := nI 3) dX10_cell_31 (by decide) ?_
            refine z_iload_n (pc := 32) dX10_cell_32 rfl rfl ?_
            first | refine z_imulN (pc := 33) (by with_reducible rfl) (by with_reducible rfl) dX10_cell_33 ?_ | refine z_imul (pc := 33) dX10_cell_33 ?_
            first | refine z_iaddN (pc := 34) (by with_reducible rfl) (by with_reducible rfl) dX10_cell_34 ?_ | refine z_iadd (pc := 34) dX10_cell_34 ?_
            refine z_iload_n (pc := 35) dX10_cell_35 rfl rfl ?_
            first | refine z_iaddN (pc := 36) (by with_reducible rfl) (by with_reducible rfl) dX10_cell_36 ?_ | refine z_iadd (pc := 36) dX10_cell_36 ?_
            refine z_ialoadv (pc := 37) dX10_cell_37 (by assumption) (by with_reducible rfl) (by omega) (by decide) (by first | assumption | exact hW _ (by omega) | rfl) ?_
            have hTk := hT (3 * a + b) hk; rw [← Nat.add_assoc, ← Nat.add_assoc] at hTk
            first | refine z_i2lN (pc := 38) (by with_reducible rfl) dX10_cell_38 (by omega) ?_ | refine z_i2l (pc := 38) dX10_cell_38 rfl ?_
            refine z_goto (pc := 39) (tgt := 45) dX10_cell_39 (by decide) ?_
            refine z_lret (pc := 45) dX10_cell_45 rfl ?_
            first
              | exact zPM_same hV (by rw [fcell, zC_n hc]; rfl)
              | exact zPM_same hV (fcell_n hp0 hp1)
              | exact zPM_same hV (by rw [Nat.add_assoc]; exact fcell_0 (zC_y b2 b4 ha hbb))
              | exact zPM_same hV (by rw [Nat.add_assoc]; exact fcell_1 (zC_y b2 b4 ha hbb))
              | exact absurd hb21 (by decide)
              | fail
      · skip
        try dsimp only [zov, Option.toList, List.cons_append, List.nil_append]
        first | refine z_if_eqN (pc := 13) (tgt := 42) (by with_reducible rfl) dX10_cell_13 (by decide) (by omega) (fun hb13 => absurd hb13 (by decide)) (fun hb13 => ?_) | refine z_if_eq (pc := 13) (tgt := 42) dX10_cell_13 (by decide) (fun hb13 => absurd hb13 (by decide)) (fun hb13 => ?_)
        · skip
          refine z_aload_n (pc := 16) dX10_cell_16 rfl rfl ?_
          refine z_getR (pc := 17) dX10_cell_17 f_RX10_11 (by assumption) rfl ?_
          refine z_iload_n (pc := 20) dX10_cell_20 rfl rfl ?_
          first | refine z_if_neN (pc := 21) (tgt := 29) (by with_reducible rfl) dX10_cell_21 (by decide) (by omega) (fun hb21 => ?_) (fun hb21 => ?_) | refine z_if_ne (pc := 21) (tgt := 29) dX10_cell_21 (by decide) (fun hb21 => ?_) (fun hb21 => ?_)
          · skip
            refine z_bipush (pc := 29) (v := nI 43) dX10_cell_29 (by decide) ?_
            refine z_iconst (pc := 31) (v := nI 3) dX10_cell_31 (by decide) ?_
            refine z_iload_n (pc := 32) dX10_cell_32 rfl rfl ?_
            first | refine z_imulN (pc := 33) (by with_reducible rfl) (by with_reducible rfl) dX10_cell_33 ?_ | refine z_imul (pc := 33) dX10_cell_33 ?_
            first | refine z_iaddN (pc := 34) (by with_reducible rfl) (by with_reducible rfl) dX10_cell_34 ?_ | refine z_iadd (pc := 34) dX10_cell_34 ?_
            refine z_iload_n (pc := 35) dX10_cell_35 rfl rfl ?_
            first | refine z_iaddN (pc := 36) (by with_reducible rfl) (by with_reducible rfl) dX10_cell_36 ?_ | refine z_iadd (pc := 36) dX10_cell_36 ?_
            refine z_ialoadv (pc := 37) dX10_cell_37 (by assumption) (by with_reducible rfl) (by omega) (by decide) (by first | assumption | exact hW _ (by omega) | rfl) ?_
            have hTk := hT (3 * a + b) hk; rw [← Nat.add_assoc, ← Nat.add_assoc] at hTk
            first | refine z_i2lN (pc := 38) (by with_reducible rfl) dX10_cell_38 (by omega) ?_ | refine z_i2l (pc := 38) dX10_cell_38 rfl ?_
            refine z_goto (pc := 39) (tgt := 45) dX10_cell_39 (by decide) ?_
            refine z_lret (pc := 45) dX10_cell_45 rfl ?_
            first
              | exact zPM_same hV (by rw [fcell, zC_n hc]; rfl)
              | exact zPM_same hV (fcell_n hp0 hp1)
              | exact zPM_same hV (by rw [Nat.add_assoc]; exact fcell_0 (zC_y b2 b4 ha hbb))
              | exact zPM_same hV (by rw [Nat.add_assoc]; exact fcell_1 (zC_y b2 b4 ha hbb))
              | exact absurd hb21 (by decide)
              | fail
          · skip
            refine z_bipush (pc := 24) (v := nI 34) dX10_cell_24 (by decide) ?_
            refine z_goto (pc := 26) (tgt := 31) dX10_cell_26 (by decide) ?_
            refine z_iconst (pc := 31) (v := nI 3) dX10_cell_31 (by decide) ?_
            refine z_iload_n (pc := 32) dX10_cell_32 rfl rfl ?_
            first | refine z_imulN (pc := 33) (by with_reducible rfl) (by with_reducible rfl) dX10_cell_33 ?_ | refine z_imul (pc := 33) dX10_cell_33 ?_
            first | refine z_iaddN (pc := 34) (by with_reducible rfl) (by with_reducible rfl) dX10_cell_34 ?_ | refine z_iadd (pc := 34) dX10_cell_34 ?_
            refine z_iload_n (pc := 35) dX10_cell_35 rfl rfl ?_
            first | refine z_iaddN (pc := 36) (by with_reducible rfl) (by with_reducible rfl) dX10_cell_36 ?_ | refine z_iadd (pc := 36) dX10_cell_36 ?_
            refine z_ialoadv (pc := 37) dX10_cell_37 (by assumption) (by with_reducible rfl) (by omega) (by decide) (by first | assumption | exact hW _ (by omega) | rfl) ?_
            have hTk := hT (3 * a + b) hk; rw [← Nat.add_assoc, ← Nat.add_assoc] at hTk
            first | refine z_i2lN (pc := 38) (by with_reducible rfl) dX10_cell_38 (by omega) ?_ | refine z_i2l (pc := 38) dX10_cell_38 rfl ?_
            refine z_goto (pc := 39) (tgt := 45) dX10_cell_39 (by decide) ?_
            refine z_lret (pc := 45) dX10_cell_45 rfl ?_
            first
              | exact zPM_same hV (by rw [fcell, zC_n hc]; rfl)
              | exact zPM_same hV (fcell_n hp0 hp1)
              | exact zPM_same hV (by rw [Nat.add_assoc]; exact fcell_0 (zC_y b2 b4 ha hbb))
              | exact zPM_same hV (by rw [Nat.add_assoc]; exact fcell_1 (zC_y b2 b4 ha hbb))
              | exact absurd hb21 (by decide)
              | fail
      · skip
        try dsimp only [zov, Option.toList, List.cons_append, List.nil_append]
        first | refine z_if_eqN (pc := 13) (tgt := 42) (by with_reducible rfl) dX10_cell_13 (by decide) (by omega) (fun hb13 => ?_) (fun hb13 => absurd hb13 (by decide)) | refine z_if_eq (pc := 13) (tgt := 42) dX10_cell_13 (by decide) (fun hb13 => ?_) (fun hb13 => absurd hb13 (by decide))
        · skip
          refine z_ldc2 (pc := 42) (v := -9223372036854775808) dX10_cell_42 q_RX10_190 ?_
          refine z_lret (pc := 45) dX10_cell_45 rfl ?_
          first
            | exact zPM_same hV (by rw [fcell, zC_n hc]; rfl)
            | exact zPM_same hV (fcell_n hp0 hp1)
            | exact zPM_same hV (by rw [Nat.add_assoc]; exact fcell_0 (zC_y b2 b4 ha hbb))
            | exact zPM_same hV (by rw [Nat.add_assoc]; exact fcell_1 (zC_y b2 b4 ha hbb))
            | exact absurd hb21 (by decide)
            | fail
  · skip
    try dsimp only [zov, Option.toList, List.cons_append, List.nil_append]
    first | refine z_if_eqN (pc := 6) (tgt := 42) (by with_reducible rfl) dX10_cell_6 (by decide) (by omega) (fun hb6 => ?_) (fun hb6 => absurd hb6 (by decide)) | refine z_if_eq (pc := 6) (tgt := 42) dX10_cell_6 (by decide) (fun hb6 => ?_) (fun hb6 => absurd hb6 (by decide))
    · skip
      refine z_ldc2 (pc := 42) (v := -9223372036854775808) dX10_cell_42 q_RX10_190 ?_
      refine z_lret (pc := 45) dX10_cell_45 rfl ?_
      first
        | exact zPM_same hV (by rw [fcell, zC_n hc]; rfl)
        | exact zPM_same hV (fcell_n hp0 hp1)
        | exact zPM_same hV (by rw [Nat.add_assoc]; exact fcell_0 (zC_y b2 b4 ha hbb))
        | exact zPM_same hV (by rw [Nat.add_assoc]; exact fcell_1 (zC_y b2 b4 ha hbb))
        | exact absurd hb21 (by decide)
        | fail
set_option maxHeartbeats 2000000 in
set_option maxRecDepth 20000 in
theorem c_X10_sum {lay : List zL} {I : zI} {J : zJ} {S : zS} (hM : kM lay) (hV : vM I J S) {w l p : Int32} : zMet lay MX10_sum 5 [.ref 79, .int w, .int l, .int p] I J (fun r I' J' => zPM I J (fsum S w l p) r I' J') := by
  refine zMet_of (t := MX10_sum) (ls := [.ref 79, .int w, .int l, .int p]) (by decide +kernel) (Nat.le_of_ble_eq_true rfl) rfl ?_
  obtain ⟨mo, m80, m81, m82, m83, m84, m85, m86, m87, m88, m89, m90, m91, m92, m93, m94, m95, m96⟩ := id hM
  have hW : vW I S.n := hV.1.1
  have hb := hV.1.2.1
  have hG := hV.1.2.2
  have hB := hb.1
  have hT := hb.2.1
  obtain ⟨b1, b2, b3, b4, b5, b6, b7, b8⟩ := id hB
  refine z_aload_n (pc := 0) dX10_sum_0 rfl rfl ?_
  refine z_iload_n (pc := 1) dX10_sum_1 rfl rfl ?_
  refine z_iload_n (pc := 2) dX10_sum_2 rfl rfl ?_
  refine z_callV (pc := 3) (c_X10_isLine hM hW hB) dX10_sum_3 l_RX10_97 m_MX10_isLine n_MX10_isLine e_MX10_isLine rfl (by omega) (by assumption) rfl rfl (Nat.le_of_ble_eq_true rfl) ?_
  rintro _ _ _ ⟨⟨rfl, hc⟩ | ⟨rfl, hc⟩, rfl, rfl⟩
  · obtain ⟨a, b, rfl, rfl, ha, hbb⟩ := hc; have hz := zlines_le (w := a) b2 b4; have hk : 3 * a + b < 9 := (by omega)
    try dsimp only [zov, Option.toList, List.cons_append, List.nil_append]
    first | refine z_if_eqN (pc := 6) (tgt := 25) (by with_reducible rfl) dX10_sum_6 (by decide) (by omega) (fun hb6 => absurd hb6 (by decide)) (fun hb6 => ?_) | refine z_if_eq (pc := 6) (tgt := 25) dX10_sum_6 (by decide) (fun hb6 => absurd hb6 (by decide)) (fun hb6 => ?_)
    · skip
      refine z_iload_n (pc := 9) dX10_sum_9 rfl rfl ?_
      refine z_callS (pc := 10) c_X10_isPart dX10_sum_10 l_RX10_187 m_MX10_isPart s_MX10_isPart rfl (by omega) rfl (Nat.le_of_ble_eq_true rfl) ?_
      rintro _ _ _ ⟨⟨rfl, rfl | rfl⟩ | ⟨rfl, hp0, hp1⟩, rfl, rfl⟩
      · skip
        try dsimp only [zov, Option.toList, List.cons_append, List.nil_append]
        first | refine z_if_eqN (pc := 13) (tgt := 25) (by with_reducible rfl) dX10_sum_13 (by decide) (by omega) (fun hb13 => absurd hb13 (by decide)) (fun hb13 => ?_) | refine z_if_eq (pc := 13) (tgt := 25) dX10_sum_13 (by decide) (fun hb13 => absurd hb13 (by decide)) (fun hb13 => ?_)
        · skip
          refine z_aload_n (pc := 16) dX10_sum_16 rfl rfl ?_
          refine z_iload_n (pc := 17) dX10_sum_17 rfl rfl ?_
          refine z_iload_n (pc := 18) dX10_sum_18 rfl rfl ?_
          refine z_callV (pc := 19) (c_X10_sums hM hW hB hT (by omega) (by omega)) dX10_sum_19 l_RX10_167 m_MX10_sums n_MX10_sums e_MX10_sums rfl (by omega) (by assumption) rfl rfl (Nat.le_of_ble_eq_true rfl) ?_
          rintro _ _ _ ⟨⟨rfl, q, hq, hqb, hab⟩ | ⟨rfl, hq⟩, rfl, hj⟩
          · skip
            try dsimp only [zov, Option.toList, List.cons_append, List.nil_append]
            first | refine z_if_neN (pc := 22) (tgt := 29) (by with_reducible rfl) dX10_sum_22 (by decide) (by omega) (fun hb22 => ?_) (fun hb22 => absurd hb22 (by decide)) | refine z_if_ne (pc := 22) (tgt := 29) dX10_sum_22 (by decide) (fun hb22 => ?_) (fun hb22 => absurd hb22 (by decide))
            · skip
              refine z_iload_n (pc := 29) dX10_sum_29 rfl rfl ?_
              first | refine z_if_neN (pc := 30) (tgt := 40) (by with_reducible rfl) dX10_sum_30 (by decide) (by omega) (fun hb30 => ?_) (fun hb30 => ?_) | refine z_if_ne (pc := 30) (tgt := 40) dX10_sum_30 (by decide) (fun hb30 => ?_) (fun hb30 => ?_)
              · skip
                refine z_aload_n (pc := 40) dX10_sum_40 rfl rfl ?_
                refine z_getJv (pc := 41) dX10_sum_41 f_RX10_151 (by assumption) rfl (by first | assumption | exact hab.1 | exact hab.2 | rfl) ?_
                refine z_lret (pc := 44) dX10_sum_44 rfl ?_
                first
                  | exact zPM_same hV (by rw [fsum, zLn_n hc]; rfl)
                  | exact zPM_same hV (fsum_n hp0 hp1)
                  | exact zPM_keep hV (zmI_r _) (zw2_m hj) (by rw [fsum, zLn_y b2 b4 ha hbb]; dsimp only; rw [hq]; rfl)
                  | exact absurd hb30 (by decide)
                  | fail
              · skip
                refine z_aload_n (pc := 33) dX10_sum_33 rfl rfl ?_
                refine z_getJv (pc := 34) dX10_sum_34 f_RX10_147 (by assumption) rfl (by first | assumption | exact hab.1 | exact hab.2 | rfl) ?_
                refine z_goto (pc := 37) (tgt := 44) dX10_sum_37 (by decide) ?_
                refine z_lret (pc := 44) dX10_sum_44 rfl ?_
                first
                  | exact zPM_same hV (by rw [fsum, zLn_n hc]; rfl)
                  | exact zPM_same hV (fsum_n hp0 hp1)
                  | exact zPM_keep hV (zmI_r _) (zw2_m hj) (by rw [fsum, zLn_y b2 b4 ha hbb]; dsimp only; rw [hq]; rfl)
                  | exact absurd hb30 (by decide)
                  | fail
          · skip
            try dsimp only [zov, Option.toList, List.cons_append, List.nil_append]
            first | refine z_if_neN (pc := 22) (tgt := 29) (by with_reducible rfl) dX10_sum_22 (by decide) (by omega) (fun hb22 => absurd hb22 (by decide)) (fun hb22 => ?_) | refine z_if_ne (pc := 22) (tgt := 29) dX10_sum_22 (by decide) (fun hb22 => absurd hb22 (by decide)) (fun hb22 => ?_)
            · skip
              refine z_ldc2 (pc := 25) (v := -9223372036854775808) dX10_sum_25 q_RX10_190 ?_
              refine z_lret (pc := 28) dX10_sum_28 rfl ?_
              first
                | exact zPM_same hV (by rw [fsum, zLn_n hc]; rfl)
                | exact zPM_same hV (fsum_n hp0 hp1)
                | exact zPM_keep hV (zmI_r _) (zw2_m hj) (by rw [fsum, zLn_y b2 b4 ha hbb]; dsimp only; rw [hq]; rfl)
                | exact absurd hb30 (by decide)
                | fail
      · skip
        try dsimp only [zov, Option.toList, List.cons_append, List.nil_append]
        first | refine z_if_eqN (pc := 13) (tgt := 25) (by with_reducible rfl) dX10_sum_13 (by decide) (by omega) (fun hb13 => absurd hb13 (by decide)) (fun hb13 => ?_) | refine z_if_eq (pc := 13) (tgt := 25) dX10_sum_13 (by decide) (fun hb13 => absurd hb13 (by decide)) (fun hb13 => ?_)
        · skip
          refine z_aload_n (pc := 16) dX10_sum_16 rfl rfl ?_
          refine z_iload_n (pc := 17) dX10_sum_17 rfl rfl ?_
          refine z_iload_n (pc := 18) dX10_sum_18 rfl rfl ?_
          refine z_callV (pc := 19) (c_X10_sums hM hW hB hT (by omega) (by omega)) dX10_sum_19 l_RX10_167 m_MX10_sums n_MX10_sums e_MX10_sums rfl (by omega) (by assumption) rfl rfl (Nat.le_of_ble_eq_true rfl) ?_
          rintro _ _ _ ⟨⟨rfl, q, hq, hqb, hab⟩ | ⟨rfl, hq⟩, rfl, hj⟩
          · skip
            try dsimp only [zov, Option.toList, List.cons_append, List.nil_append]
            first | refine z_if_neN (pc := 22) (tgt := 29) (by with_reducible rfl) dX10_sum_22 (by decide) (by omega) (fun hb22 => ?_) (fun hb22 => absurd hb22 (by decide)) | refine z_if_ne (pc := 22) (tgt := 29) dX10_sum_22 (by decide) (fun hb22 => ?_) (fun hb22 => absurd hb22 (by decide))
            · skip
              refine z_iload_n (pc := 29) dX10_sum_29 rfl rfl ?_
              first | refine z_if_neN (pc := 30) (tgt := 40) (by with_reducible rfl) dX10_sum_30 (by decide) (by omega) (fun hb30 => ?_) (fun hb30 => ?_) | refine z_if_ne (pc := 30) (tgt := 40) dX10_sum_30 (by decide) (fun hb30 => ?_) (fun hb30 => ?_)
              · skip
                refine z_aload_n (pc := 40) dX10_sum_40 rfl rfl ?_
                refine z_getJv (pc := 41) dX10_sum_41 f_RX10_151 (by assumption) rfl (by first | assumption | exact hab.1 | exact hab.2 | rfl) ?_
                refine z_lret (pc := 44) dX10_sum_44 rfl ?_
                first
                  | exact zPM_same hV (by rw [fsum, zLn_n hc]; rfl)
                  | exact zPM_same hV (fsum_n hp0 hp1)
                  | exact zPM_keep hV (zmI_r _) (zw2_m hj) (by rw [fsum, zLn_y b2 b4 ha hbb]; dsimp only; rw [hq]; rfl)
                  | exact absurd hb30 (by decide)
                  | fail
              · skip
                refine z_aload_n (pc := 33) dX10_sum_33 rfl rfl ?_
                refine z_getJv (pc := 34) dX10_sum_34 f_RX10_147 (by assumption) rfl (by first | assumption | exact hab.1 | exact hab.2 | rfl) ?_
                refine z_goto (pc := 37) (tgt := 44) dX10_sum_37 (by decide) ?_
                refine z_lret (pc := 44) dX10_sum_44 rfl ?_
                first
                  | exact zPM_same hV (by rw [fsum, zLn_n hc]; rfl)
                  | exact zPM_same hV (fsum_n hp0 hp1)
                  | exact zPM_keep hV (zmI_r _) (zw2_m hj) (by rw [fsum, zLn_y b2 b4 ha hbb]; dsimp only; rw [hq]; rfl)
                  | exact absurd hb30 (by decide)
                  | fail
          · skip
            try dsimp only [zov, Option.toList, List.cons_append, List.nil_append]
            first | refine z_if_neN (pc := 22) (tgt := 29) (by with_reducible rfl) dX10_sum_22 (by decide) (by omega) (fun hb22 => absurd hb22 (by decide)) (fun hb22 => ?_) | refine z_if_ne (pc := 22) (tgt := 29) dX10_sum_22 (by decide) (fun hb22 => absurd hb22 (by decide)) (fun hb22 => ?_)
            · skip
              refine z_ldc2 (pc := 25) (v := -9223372036854775808) dX10_sum_25 q_RX10_190 ?_
              refine z_lret (pc := 28) dX10_sum_28 rfl ?_
              first
                | exact zPM_same hV (by rw [fsum, zLn_n hc]; rfl)
                | exact zPM_same hV (fsum_n hp0 hp1)
                | exact zPM_keep hV (zmI_r _) (zw2_m hj) (by rw [fsum, zLn_y b2 b4 ha hbb]; dsimp only; rw [hq]; rfl)
                | exact absurd hb30 (by decide)
                | fail
      · skip
        try dsimp only [zov, Option.toList, List.cons_append, List.nil_append]
        first | refine z_if_eqN (pc := 13) (tgt := 25) (by with_reducible rfl) dX10_sum_13 (by decide) (by omega) (fun hb13 => ?_) (fun hb13 => absurd hb13 (by decide)) | refine z_if_eq (pc := 13) (tgt := 25) dX10_sum_13 (by decide) (fun hb13 => ?_) (fun hb13 => absurd hb13 (by decide))
        · skip
          refine z_ldc2 (pc := 25) (v := -9223372036854775808) dX10_sum_25 q_RX10_190 ?_
          refine z_lret (pc := 28) dX10_sum_28 rfl ?_
          first
            | exact zPM_same hV (by rw [fsum, zLn_n hc]; rfl)
            | exact zPM_same hV (fsum_n hp0 hp1)
            | exact zPM_keep hV (zmI_r _) (zw2_m hj) (by rw [fsum, zLn_y b2 b4 ha hbb]; dsimp only; rw [hq]; rfl)
            | exact absurd hb30 (by decide)
            | fail
  · skip
    try dsimp only [zov, Option.toList, List.cons_append, List.nil_append]
    first | refine z_if_eqN (pc := 6) (tgt := 25) (by with_reducible rfl) dX10_sum_6 (by decide) (by omega) (fun hb6 => ?_) (fun hb6 => absurd hb6 (by decide)) | refine z_if_eq (pc := 6) (tgt := 25) dX10_sum_6 (by decide) (fun hb6 => ?_) (fun hb6 => absurd hb6 (by decide))
    · skip
      refine z_ldc2 (pc := 25) (v := -9223372036854775808) dX10_sum_25 q_RX10_190 ?_
      refine z_lret (pc := 28) dX10_sum_28 rfl ?_
      first
        | exact zPM_same hV (by rw [fsum, zLn_n hc]; rfl)
        | exact zPM_same hV (fsum_n hp0 hp1)
        | exact zPM_keep hV (zmI_r _) (zw2_m hj) (by rw [fsum, zLn_y b2 b4 ha hbb]; dsimp only; rw [hq]; rfl)
        | exact absurd hb30 (by decide)
        | fail
set_option maxHeartbeats 2000000 in
set_option maxRecDepth 20000 in
theorem c_X10_gap {lay : List zL} {I : zI} {J : zJ} {S : zS} (hM : kM lay) (hV : vM I J S) {w l p : Int32} : zMet lay MX10_gap 5 [.ref 79, .int w, .int l, .int p] I J (fun r I' J' => zPM I J (fgap S w l p) r I' J') := by
  refine zMet_of (t := MX10_gap) (ls := [.ref 79, .int w, .int l, .int p]) (by decide +kernel) (Nat.le_of_ble_eq_true rfl) rfl ?_
  obtain ⟨mo, m80, m81, m82, m83, m84, m85, m86, m87, m88, m89, m90, m91, m92, m93, m94, m95, m96⟩ := id hM
  have hW : vW I S.n := hV.1.1
  have hb := hV.1.2.1
  have hG := hV.1.2.2
  have hB := hb.1
  have hT := hb.2.1
  obtain ⟨b1, b2, b3, b4, b5, b6, b7, b8⟩ := id hB
  refine z_aload_n (pc := 0) dX10_gap_0 rfl rfl ?_
  refine z_iload_n (pc := 1) dX10_gap_1 rfl rfl ?_
  refine z_iload_n (pc := 2) dX10_gap_2 rfl rfl ?_
  refine z_callV (pc := 3) (c_X10_isLine hM hW hB) dX10_gap_3 l_RX10_97 m_MX10_isLine n_MX10_isLine e_MX10_isLine rfl (by omega) (by assumption) rfl rfl (Nat.le_of_ble_eq_true rfl) ?_
  rintro _ _ _ ⟨⟨rfl, hc⟩ | ⟨rfl, hc⟩, rfl, rfl⟩
  · obtain ⟨a, b, rfl, rfl, ha, hbb⟩ := hc; have hz := zlines_le (w := a) b2 b4; have hk : 3 * a + b < 9 := (by omega)
    try dsimp only [zov, Option.toList, List.cons_append, List.nil_append]
    first | refine z_if_eqN (pc := 6) (tgt := 25) (by with_reducible rfl) dX10_gap_6 (by decide) (by omega) (fun hb6 => absurd hb6 (by decide)) (fun hb6 => ?_) | refine z_if_eq (pc := 6) (tgt := 25) dX10_gap_6 (by decide) (fun hb6 => absurd hb6 (by decide)) (fun hb6 => ?_)
    · skip
      refine z_iload_n (pc := 9) dX10_gap_9 rfl rfl ?_
      refine z_callS (pc := 10) c_X10_isPart dX10_gap_10 l_RX10_187 m_MX10_isPart s_MX10_isPart rfl (by omega) rfl (Nat.le_of_ble_eq_true rfl) ?_
      rintro _ _ _ ⟨⟨rfl, rfl | rfl⟩ | ⟨rfl, hp0, hp1⟩, rfl, rfl⟩
      · skip
        try dsimp only [zov, Option.toList, List.cons_append, List.nil_append]
        first | refine z_if_eqN (pc := 13) (tgt := 25) (by with_reducible rfl) dX10_gap_13 (by decide) (by omega) (fun hb13 => absurd hb13 (by decide)) (fun hb13 => ?_) | refine z_if_eq (pc := 13) (tgt := 25) dX10_gap_13 (by decide) (fun hb13 => absurd hb13 (by decide)) (fun hb13 => ?_)
        · skip
          refine z_aload_n (pc := 16) dX10_gap_16 rfl rfl ?_
          refine z_iload_n (pc := 17) dX10_gap_17 rfl rfl ?_
          refine z_iload_n (pc := 18) dX10_gap_18 rfl rfl ?_
          refine z_callV (pc := 19) (c_X10_sums hM hW hB hT (by omega) (by omega)) dX10_gap_19 l_RX10_167 m_MX10_sums n_MX10_sums e_MX10_sums rfl (by omega) (by assumption) rfl rfl (Nat.le_of_ble_eq_true rfl) ?_
          rintro _ _ _ ⟨⟨rfl, q, hq, hqb, hab⟩ | ⟨rfl, hq⟩, rfl, hj⟩
          · skip
            try dsimp only [zov, Option.toList, List.cons_append, List.nil_append]
            first | refine z_if_neN (pc := 22) (tgt := 29) (by with_reducible rfl) dX10_gap_22 (by decide) (by omega) (fun hb22 => ?_) (fun hb22 => absurd hb22 (by decide)) | refine z_if_ne (pc := 22) (tgt := 29) dX10_gap_22 (by decide) (fun hb22 => ?_) (fun hb22 => absurd hb22 (by decide))
            · skip
              refine z_aload_n (pc := 29) dX10_gap_29 rfl rfl ?_
              refine z_aload_n (pc := 30) dX10_gap_30 rfl rfl ?_
              refine z_iload_n (pc := 31) dX10_gap_31 rfl rfl ?_
              refine z_iload_n (pc := 32) dX10_gap_32 rfl rfl ?_
              refine z_callV (pc := 33) (c_X10_marginAt hM hW (by omega) (by omega)) dX10_gap_33 l_RX10_102 m_MX10_marginAt n_MX10_marginAt e_MX10_marginAt rfl (by omega) (by assumption) rfl rfl (Nat.le_of_ble_eq_true rfl) ?_
              rintro _ _ _ (⟨rfl, rfl, rfl⟩)
              try dsimp only [zov, Option.toList, List.cons_append, List.nil_append]
              refine z_callV (pc := 36) (c_X10_gaps hM (b8 _ (by omega)) hqb hab) dX10_gap_36 l_RX10_192 m_MX10_gaps n_MX10_gaps e_MX10_gaps rfl (by omega) (by assumption) rfl rfl (Nat.le_of_ble_eq_true rfl) ?_
              rintro _ _ _ (⟨rfl, rfl, rfl⟩)
              try dsimp only [zov, Option.toList, List.cons_append, List.nil_append]
              refine z_iload_n (pc := 39) dX10_gap_39 rfl rfl ?_
              first | refine z_if_neN (pc := 40) (tgt := 50) (by with_reducible rfl) dX10_gap_40 (by decide) (by omega) (fun hb40 => ?_) (fun hb40 => ?_) | refine z_if_ne (pc := 40) (tgt := 50) dX10_gap_40 (by decide) (fun hb40 => ?_) (fun hb40 => ?_)
              · skip
                refine z_aload_n (pc := 50) dX10_gap_50 rfl rfl ?_
                refine z_getJv (pc := 51) dX10_gap_51 f_RX10_151 (by assumption) rfl (by first | assumption | exact (zup_n _ _ (by decide)).trans (zup_s _ _ _ _) | exact zup_s _ _ _ _ | rfl) ?_
                refine z_lret (pc := 54) dX10_gap_54 rfl ?_
                first
                  | exact zPM_same hV (by rw [fgap, zLn_n hc]; rfl)
                  | exact zPM_same hV (fgap_n hp0 hp1)
                  | exact zPM_keep hV (zmI_r _) (zw2_m hj) (by rw [fgap, zLn_y b2 b4 ha hbb]; dsimp only; rw [zgp_n hq]; rfl)
                  | exact zPM_keep hV (zmI_r _) (zmJ_t (zw2_m hj) (zw2_m zw2_u)) (by rw [fgap, zLn_y b2 b4 ha hbb]; dsimp only; rw [zgp_q hq]; rfl)
                  | exact absurd hb40 (by decide)
                  | fail
              · skip
                refine z_aload_n (pc := 43) dX10_gap_43 rfl rfl ?_
                refine z_getJv (pc := 44) dX10_gap_44 f_RX10_147 (by assumption) rfl (by first | assumption | exact (zup_n _ _ (by decide)).trans (zup_s _ _ _ _) | exact zup_s _ _ _ _ | rfl) ?_
                refine z_goto (pc := 47) (tgt := 54) dX10_gap_47 (by decide) ?_
                refine z_lret (pc := 54) dX10_gap_54 rfl ?_
                first
                  | exact zPM_same hV (by rw [fgap, zLn_n hc]; rfl)
                  | exact zPM_same hV (fgap_n hp0 hp1)
                  | exact zPM_keep hV (zmI_r _) (zw2_m hj) (by rw [fgap, zLn_y b2 b4 ha hbb]; dsimp only; rw [zgp_n hq]; rfl)
                  | exact zPM_keep hV (zmI_r _) (zmJ_t (zw2_m hj) (zw2_m zw2_u)) (by rw [fgap, zLn_y b2 b4 ha hbb]; dsimp only; rw [zgp_q hq]; rfl)
                  | exact absurd hb40 (by decide)
                  | fail
          · skip
            try dsimp only [zov, Option.toList, List.cons_append, List.nil_append]
            first | refine z_if_neN (pc := 22) (tgt := 29) (by with_reducible rfl) dX10_gap_22 (by decide) (by omega) (fun hb22 => absurd hb22 (by decide)) (fun hb22 => ?_) | refine z_if_ne (pc := 22) (tgt := 29) dX10_gap_22 (by decide) (fun hb22 => absurd hb22 (by decide)) (fun hb22 => ?_)
            · skip
              refine z_ldc2 (pc := 25) (v := -9223372036854775808) dX10_gap_25 q_RX10_190 ?_
              refine z_lret (pc := 28) dX10_gap_28 rfl ?_
              first
                | exact zPM_same hV (by rw [fgap, zLn_n hc]; rfl)
                | exact zPM_same hV (fgap_n hp0 hp1)
                | exact zPM_keep hV (zmI_r _) (zw2_m hj) (by rw [fgap, zLn_y b2 b4 ha hbb]; dsimp only; rw [zgp_n hq]; rfl)
                | exact zPM_keep hV (zmI_r _) (zmJ_t (zw2_m hj) (zw2_m zw2_u)) (by rw [fgap, zLn_y b2 b4 ha hbb]; dsimp only; rw [zgp_q hq]; rfl)
                | exact absurd hb40 (by decide)
                | fail
      · skip
        try dsimp only [zov, Option.toList, List.cons_append, List.nil_append]
        first | refine z_if_eqN (pc := 13) (tgt := 25) (by with_reducible rfl) dX10_gap_13 (by decide) (by omega) (fun hb13 => absurd hb13 (by decide)) (fun hb13 => ?_) | refine z_if_eq (pc := 13) (tgt := 25) dX10_gap_13 (by decide) (fun hb13 => absurd hb13 (by decide)) (fun hb13 => ?_)
        · skip
          refine z_aload_n (pc := 16) dX10_gap_16 rfl rfl ?_
          refine z_iload_n (pc := 17) dX10_gap_17 rfl rfl ?_
          refine z_iload_n (pc := 18) dX10_gap_18 rfl rfl ?_
          refine z_callV (pc := 19) (c_X10_sums hM hW hB hT (by omega) (by omega)) dX10_gap_19 l_RX10_167 m_MX10_sums n_MX10_sums e_MX10_sums rfl (by omega) (by assumption) rfl rfl (Nat.le_of_ble_eq_true rfl) ?_
          rintro _ _ _ ⟨⟨rfl, q, hq, hqb, hab⟩ | ⟨rfl, hq⟩, rfl, hj⟩
          · skip
            try dsimp only [zov, Option.toList, List.cons_append, List.nil_append]
            first | refine z_if_neN (pc := 22) (tgt := 29) (by with_reducible rfl) dX10_gap_22 (by decide) (by omega) (fun hb22 => ?_) (fun hb22 => absurd hb22 (by decide)) | refine z_if_ne (pc := 22) (tgt := 29) dX10_gap_22 (by decide) (fun hb22 => ?_) (fun hb22 => absurd hb22 (by decide))
            · skip
              refine z_aload_n (pc := 29) dX10_gap_29 rfl rfl ?_
              refine z_aload_n (pc := 30) dX10_gap_30 rfl rfl ?_
              refine z_iload_n (pc := 31) dX10_gap_31 rfl rfl ?_
              refine z_iload_n (pc := 32) dX10_gap_32 rfl rfl ?_
              refine z_callV (pc := 33) (c_X10_marginAt hM hW (by omega) (by omega)) dX10_gap_33 l_RX10_102 m_MX10_marginAt n_MX10_marginAt e_MX10_marginAt rfl (by omega) (by assumption) rfl rfl (Nat.le_of_ble_eq_true rfl) ?_
              rintro _ _ _ (⟨rfl, rfl, rfl⟩)
              try dsimp only [zov, Option.toList, List.cons_append, List.nil_append]
              refine z_callV (pc := 36) (c_X10_gaps hM (b8 _ (by omega)) hqb hab) dX10_gap_36 l_RX10_192 m_MX10_gaps n_MX10_gaps e_MX10_gaps rfl (by omega) (by assumption) rfl rfl (Nat.le_of_ble_eq_true rfl) ?_
              rintro _ _ _ (⟨rfl, rfl, rfl⟩)
              try dsimp only [zov, Option.toList, List.cons_append, List.nil_append]
              refine z_iload_n (pc := 39) dX10_gap_39 rfl rfl ?_
              first | refine z_if_neN (pc := 40) (tgt := 50) (by with_reducible rfl) dX10_gap_40 (by decide) (by omega) (fun hb40 => ?_) (fun hb40 => ?_) | refine z_if_ne (pc := 40) (tgt := 50) dX10_gap_40 (by decide) (fun hb40 => ?_) (fun hb40 => ?_)
              · skip
                refine z_aload_n (pc := 50) dX10_gap_50 rfl rfl ?_
                refine z_getJv (pc := 51) dX10_gap_51 f_RX10_151 (by assumption) rfl (by first | assumption | exact (zup_n _ _ (by decide)).trans (zup_s _ _ _ _) | exact zup_s _ _ _ _ | rfl) ?_
                refine z_lret (pc := 54) dX10_gap_54 rfl ?_
                first
                  | exact zPM_same hV (by rw [fgap, zLn_n hc]; rfl)
                  | exact zPM_same hV (fgap_n hp0 hp1)
                  | exact zPM_keep hV (zmI_r _) (zw2_m hj) (by rw [fgap, zLn_y b2 b4 ha hbb]; dsimp only; rw [zgp_n hq]; rfl)
                  | exact zPM_keep hV (zmI_r _) (zmJ_t (zw2_m hj) (zw2_m zw2_u)) (by rw [fgap, zLn_y b2 b4 ha hbb]; dsimp only; rw [zgp_q hq]; rfl)
                  | exact absurd hb40 (by decide)
                  | fail
              · skip
                refine z_aload_n (pc := 43) dX10_gap_43 rfl rfl ?_
                refine z_getJv (pc := 44) dX10_gap_44 f_RX10_147 (by assumption) rfl (by first | assumption | exact (zup_n _ _ (by decide)).trans (zup_s _ _ _ _) | exact zup_s _ _ _ _ | rfl) ?_
                refine z_goto (pc := 47) (tgt := 54) dX10_gap_47 (by decide) ?_
                refine z_lret (pc := 54) dX10_gap_54 rfl ?_
                first
                  | exact zPM_same hV (by rw [fgap, zLn_n hc]; rfl)
                  | exact zPM_same hV (fgap_n hp0 hp1)
                  | exact zPM_keep hV (zmI_r _) (zw2_m hj) (by rw [fgap, zLn_y b2 b4 ha hbb]; dsimp only; rw [zgp_n hq]; rfl)
                  | exact zPM_keep hV (zmI_r _) (zmJ_t (zw2_m hj) (zw2_m zw2_u)) (by rw [fgap, zLn_y b2 b4 ha hbb]; dsimp only; rw [zgp_q hq]; rfl)
                  | exact absurd hb40 (by decide)
                  | fail
          · skip
            try dsimp only [zov, Option.toList, List.cons_append, List.nil_append]
            first | refine z_if_neN (pc := 22) (tgt := 29) (by with_reducible rfl) dX10_gap_22 (by decide) (by omega) (fun hb22 => absurd hb22 (by decide)) (fun hb22 => ?_) | refine z_if_ne (pc := 22) (tgt := 29) dX10_gap_22 (by decide) (fun hb22 => absurd hb22 (by decide)) (fun hb22 => ?_)
            · skip
              refine z_ldc2 (pc := 25) (v := -9223372036854775808) dX10_gap_25 q_RX10_190 ?_
              refine z_lret (pc := 28) dX10_gap_28 rfl ?_
              first
                | exact zPM_same hV (by rw [fgap, zLn_n hc]; rfl)
                | exact zPM_same hV (fgap_n hp0 hp1)
                | exact zPM_keep hV (zmI_r _) (zw2_m hj) (by rw [fgap, zLn_y b2 b4 ha hbb]; dsimp only; rw [zgp_n hq]; rfl)
                | exact zPM_keep hV (zmI_r _) (zmJ_t (zw2_m hj) (zw2_m zw2_u)) (by rw [fgap, zLn_y b2 b4 ha hbb]; dsimp only; rw [zgp_q hq]; rfl)
                | exact absurd hb40 (by decide)
                | fail
      · skip
        try dsimp only [zov, Option.toList, List.cons_append, List.nil_append]
        first | refine z_if_eqN (pc := 13) (tgt := 25) (by with_reducible rfl) dX10_gap_13 (by decide) (by omega) (fun hb13 => ?_) (fun hb13 => absurd hb13 (by decide)) | refine z_if_eq (pc := 13) (tgt := 25) dX10_gap_13 (by decide) (fun hb13 => ?_) (fun hb13 => absurd hb13 (by decide))
        · skip
          refine z_ldc2 (pc := 25) (v := -9223372036854775808) dX10_gap_25 q_RX10_190 ?_
          refine z_lret (pc := 28) dX10_gap_28 rfl ?_
          first
            | exact zPM_same hV (by rw [fgap, zLn_n hc]; rfl)
            | exact zPM_same hV (fgap_n hp0 hp1)
            | exact zPM_keep hV (zmI_r _) (zw2_m hj) (by rw [fgap, zLn_y b2 b4 ha hbb]; dsimp only; rw [zgp_n hq]; rfl)
            | exact zPM_keep hV (zmI_r _) (zmJ_t (zw2_m hj) (zw2_m zw2_u)) (by rw [fgap, zLn_y b2 b4 ha hbb]; dsimp only; rw [zgp_q hq]; rfl)
            | exact absurd hb40 (by decide)
            | fail
  · skip
    try dsimp only [zov, Option.toList, List.cons_append, List.nil_append]
    first | refine z_if_eqN (pc := 6) (tgt := 25) (by with_reducible rfl) dX10_gap_6 (by decide) (by omega) (fun hb6 => ?_) (fun hb6 => absurd hb6 (by decide)) | refine z_if_eq (pc := 6) (tgt := 25) dX10_gap_6 (by decide) (fun hb6 => ?_) (fun hb6 => absurd hb6 (by decide))
    · skip
      refine z_ldc2 (pc := 25) (v := -9223372036854775808) dX10_gap_25 q_RX10_190 ?_
      refine z_lret (pc := 28) dX10_gap_28 rfl ?_
      first
        | exact zPM_same hV (by rw [fgap, zLn_n hc]; rfl)
        | exact zPM_same hV (fgap_n hp0 hp1)
        | exact zPM_keep hV (zmI_r _) (zw2_m hj) (by rw [fgap, zLn_y b2 b4 ha hbb]; dsimp only; rw [zgp_n hq]; rfl)
        | exact zPM_keep hV (zmI_r _) (zmJ_t (zw2_m hj) (zw2_m zw2_u)) (by rw [fgap, zLn_y b2 b4 ha hbb]; dsimp only; rw [zgp_q hq]; rfl)
        | exact absurd hb40 (by decide)
        | fail
