section ZN
variable {lay : List zL} {t : zM} {d pc : Nat} {ls st : List Value} {I : zI} {J : zJ} {Q : Value → zI → zJ → Prop}
theorem z_iaddN {a b : Nat} {x y : Int32} (hx : x = nI a) (hy : y = nI b) (hd : decode t.2.1 pc = .ok (.iadd, 1)) (k : Z lay t d (pc + 1) ls (.int (nI (a + b)) :: st) I J Q) : Z lay t d pc ls (.int y :: .int x :: st) I J Q := by
  subst hx
  subst hy
  exact z_iadd hd (by rw [nI_add]; exact k)
theorem z_imulN {a b : Nat} {x y : Int32} (hx : x = nI a) (hy : y = nI b) (hd : decode t.2.1 pc = .ok (.imul, 1)) (k : Z lay t d (pc + 1) ls (.int (nI (a * b)) :: st) I J Q) : Z lay t d pc ls (.int y :: .int x :: st) I J Q := by
  subst hx
  subst hy
  exact z_imul hd (by rw [pk_mul]; exact k)
theorem z_isubN {a b : Nat} {x y : Int32} (hx : x = nI a) (hy : y = nI b) (hd : decode t.2.1 pc = .ok (.isub, 1)) (h : b ≤ a) (k : Z lay t d (pc + 1) ls (.int (nI (a - b)) :: st) I J Q) : Z lay t d pc ls (.int y :: .int x :: st) I J Q := by
  subst hx
  subst hy
  exact z_isub hd (by rw [pk_sub h]; exact k)
theorem z_idivN {a b : Nat} {x y : Int32} (hx : x = nI a) (hy : y = nI b) (hd : decode t.2.1 pc = .ok (.idiv, 1)) (ha : a < 2147483648) (h0 : 0 < b) (hb : b < 2147483648) (k : Z lay t d (pc + 1) ls (.int (nI (a / b)) :: st) I J Q) : Z lay t d pc ls (.int y :: .int x :: st) I J Q := by
  subst hx
  subst hy
  exact z_idiv hd (nI_ne0 h0 hb) (by rw [pk_div ha h0 hb]; exact k)
theorem z_iremN {a b : Nat} {x y : Int32} (hx : x = nI a) (hy : y = nI b) (hd : decode t.2.1 pc = .ok (.irem, 1)) (ha : a < 2147483648) (h0 : 0 < b) (hb : b < 2147483648) (k : Z lay t d (pc + 1) ls (.int (nI (a % b)) :: st) I J Q) : Z lay t d pc ls (.int y :: .int x :: st) I J Q := by
  subst hx
  subst hy
  exact z_irem hd (nI_ne0 h0 hb) (by rw [pk_rem ha h0 hb]; exact k)
theorem z_laddN {a b : Nat} {x y : Int64} (hx : x = lN a) (hy : y = lN b) (hd : decode t.2.1 pc = .ok (.ladd, 1)) (k : Z lay t d (pc + 1) ls (.long (lN (a + b)) :: st) I J Q) : Z lay t d pc ls (.long y :: .long x :: st) I J Q := by
  subst hx
  subst hy
  exact z_ladd hd (by rw [lN_add]; exact k)
theorem z_lmulN {a b : Nat} {x y : Int64} (hx : x = lN a) (hy : y = lN b) (hd : decode t.2.1 pc = .ok (.lmul, 1)) (k : Z lay t d (pc + 1) ls (.long (lN (a * b)) :: st) I J Q) : Z lay t d pc ls (.long y :: .long x :: st) I J Q := by
  subst hx
  subst hy
  exact z_lmul hd (by rw [lN_mul]; exact k)
theorem z_lsubN {a b : Nat} {x y : Int64} (hx : x = lN a) (hy : y = lN b) (hd : decode t.2.1 pc = .ok (.lsub, 1)) (h : b ≤ a) (k : Z lay t d (pc + 1) ls (.long (lN (a - b)) :: st) I J Q) : Z lay t d pc ls (.long y :: .long x :: st) I J Q := by
  subst hx
  subst hy
  exact z_lsub hd (by rw [lN_sub h]; exact k)
theorem lN_ne0 {b : Nat} (h0 : 0 < b) (hb : b < 9223372036854775808) : ¬ lN b = 0 := fun h => by
  have h1 := (pk_lEQ (a := b) (b := 0) hb (by decide)).mp h
  omega
theorem z_ldivN {a b : Nat} {x y : Int64} (hx : x = lN a) (hy : y = lN b) (hd : decode t.2.1 pc = .ok (.ldiv, 1)) (ha : a < 9223372036854775808) (h0 : 0 < b) (hb : b < 9223372036854775808) (k : Z lay t d (pc + 1) ls (.long (lN (a / b)) :: st) I J Q) : Z lay t d pc ls (.long y :: .long x :: st) I J Q := by
  subst hx
  subst hy
  exact z_ldiv hd (lN_ne0 h0 hb) (by rw [pk_lDiv ha h0 hb]; exact k)
theorem z_lremN {a b : Nat} {x y : Int64} (hx : x = lN a) (hy : y = lN b) (hd : decode t.2.1 pc = .ok (.lrem, 1)) (ha : a < 9223372036854775808) (h0 : 0 < b) (hb : b < 9223372036854775808) (k : Z lay t d (pc + 1) ls (.long (lN (a % b)) :: st) I J Q) : Z lay t d pc ls (.long y :: .long x :: st) I J Q := by
  subst hx
  subst hy
  exact z_lrem hd (lN_ne0 h0 hb) (by rw [pk_lRem ha h0 hb]; exact k)
theorem z_i2lN {a : Nat} {x : Int32} (hx : x = nI a) (hd : decode t.2.1 pc = .ok (.i2l, 1)) (ha : a < 2147483648) (k : Z lay t d (pc + 1) ls (.long (lN a) :: st) I J Q) : Z lay t d pc ls (.int x :: st) I J Q := by
  subst hx
  exact z_i2l hd (nI_l ha) k
theorem z_l2iN {a : Nat} {x : Int64} (hx : x = lN a) (hd : decode t.2.1 pc = .ok (.l2i, 1)) (k : Z lay t d (pc + 1) ls (.int (nI a) :: st) I J Q) : Z lay t d pc ls (.long x :: st) I J Q := by
  subst hx
  exact z_l2i hd (lN_i a) k
theorem z_iincN {i c a : Nat} {n : Int} {ls' : List Value} (hd : decode t.2.1 pc = .ok (.iinc i n, 3)) {x : Int32} (hx : ls[i]? = some (.int x)) (hxa : x = nI a) (hc : Int32.ofInt n = nI c) (hl : i < t.2.2.1) (hs : zst1 ls i (.int (nI (a + c))) = ls') (k : Z lay t d (pc + 3) ls' st I J Q) : Z lay t d pc ls st I J Q := z_iinc hd hx (by rw [hxa, hc, nI_add]) hl hs k
theorem z_getIv {idx ci k0 a : Nat} {ty : FieldType} {fin : Bool} {fl : List Nat} {v : Int32} (hd : decode t.2.1 pc = .ok (.getfield idx, 3)) (hF : zFld t.1.cls idx ci k0 ty fin) (hl : lay[a]? = some (.inl (ci, fl))) (hf0 : fl[k0]? = some 0) (hv : I a k0 = v) (k : Z lay t d (pc + 3) ls (.int v :: st) I J Q) : Z lay t d pc ls (.ref a :: st) I J Q := z_getI hd hF hl hf0 (by rw [hv]; exact k)
theorem z_getJv {idx ci k0 a : Nat} {ty : FieldType} {fin : Bool} {fl : List Nat} {v : Int64} (hd : decode t.2.1 pc = .ok (.getfield idx, 3)) (hF : zFld t.1.cls idx ci k0 ty fin) (hl : lay[a]? = some (.inl (ci, fl))) (hf0 : fl[k0]? = some 1) (hv : J a k0 = v) (k : Z lay t d (pc + 3) ls (.long v :: st) I J Q) : Z lay t d pc ls (.ref a :: st) I J Q := z_getJ hd hF hl hf0 (by rw [hv]; exact k)
theorem z_ialoadv {a n N : Nat} {i v : Int32} (hd : decode t.2.1 pc = .ok (.iaload, 1)) (hl : lay[a]? = some (.inr (.inl N))) (hi : i = nI n) (hn : n < N) (hN : N < 2147483648) (hv : I a n = v) (k : Z lay t d (pc + 1) ls (.int v :: st) I J Q) : Z lay t d pc ls (.int i :: .ref a :: st) I J Q := z_iaload hd hl hi hn hN (by rw [hv]; exact k)
theorem z_laloadv {a n N : Nat} {i : Int32} {v : Int64} (hd : decode t.2.1 pc = .ok (.laload, 1)) (hl : lay[a]? = some (.inr (.inr (.inl N)))) (hi : i = nI n) (hn : n < N) (hN : N < 2147483648) (hv : J a n = v) (k : Z lay t d (pc + 1) ls (.long v :: st) I J Q) : Z lay t d pc ls (.int i :: .ref a :: st) I J Q := z_laload hd hl hi hn hN (by rw [hv]; exact k)
/-- the last value on the stack, or what is to be in it, by another name -/
theorem z_topI {x v : Int32} (hv : x = v) (k : Z lay t d pc ls (.int v :: st) I J Q) : Z lay t d pc ls (.int x :: st) I J Q := by rw [hv]; exact k
theorem z_topJ {x v : Int64} (hv : x = v) (k : Z lay t d pc ls (.long v :: st) I J Q) : Z lay t d pc ls (.long x :: st) I J Q := by rw [hv]; exact k
theorem z_heap {I' : zI} {J' : zJ} (hi : I = I') (hj : J = J') (k : Z lay t d pc ls st I' J' Q) : Z lay t d pc ls st I J Q := by rw [hi, hj]; exact k
theorem zMet_to {as : List Value} {Q' : Value → zI → zJ → Prop} (h : zMet lay t d as I J Q') (hq : ∀ r I' J', Q' r I' J' → Q r I' J') : zMet lay t d as I J Q := by
  intro l dC dI cI cJ cR ad sz p e ha hc hk s m args below hf happ hP hK
  obtain ⟨k, o, h1, h2, h3, ⟨⟨r, I', J', q1, q2, q3⟩, q4⟩, q5⟩ := h l dC dI cI cJ cR ad sz p e ha hc hk s m args below hf happ hP hK
  exact ⟨k, o, h1, h2, h3, ⟨⟨r, I', J', q1, hq r I' J' q2, q3⟩, q4⟩, q5⟩
theorem z_icmp_eqN {a b : Nat} {x y : Int32} {off : Int} {tgt : Nat} (hx : x = nI a) (hy : y = nI b) (hd : decode t.2.1 pc = .ok (.if_icmp .eq off, 3)) (ht : (pc : Int) + off = (tgt : Int)) (ha : a < 2147483648) (hb : b < 2147483648) (kt : a = b → Z lay t d tgt ls st I J Q) (kf : ¬ a = b → Z lay t d (pc + 3) ls st I J Q) : Z lay t d pc ls (.int y :: .int x :: st) I J Q := by
  subst hx
  subst hy
  exact z_icmp_eq hd ht (fun h => kt ((nI_eq ha hb).mp h)) (fun h => kf (fun q => h ((nI_eq ha hb).mpr q)))
theorem z_icmp_ltN {a b : Nat} {x y : Int32} {off : Int} {tgt : Nat} (hx : x = nI a) (hy : y = nI b) (hd : decode t.2.1 pc = .ok (.if_icmp .lt off, 3)) (ht : (pc : Int) + off = (tgt : Int)) (ha : a < 2147483648) (hb : b < 2147483648) (kt : a < b → Z lay t d tgt ls st I J Q) (kf : ¬ a < b → Z lay t d (pc + 3) ls st I J Q) : Z lay t d pc ls (.int y :: .int x :: st) I J Q := by
  subst hx
  subst hy
  exact z_icmp_lt hd ht (fun h => kt ((nI_ltI ha hb).mp h)) (fun h => kf (fun q => h ((nI_ltI ha hb).mpr q)))
theorem z_icmp_leN {a b : Nat} {x y : Int32} {off : Int} {tgt : Nat} (hx : x = nI a) (hy : y = nI b) (hd : decode t.2.1 pc = .ok (.if_icmp .le off, 3)) (ht : (pc : Int) + off = (tgt : Int)) (ha : a < 2147483648) (hb : b < 2147483648) (kt : a ≤ b → Z lay t d tgt ls st I J Q) (kf : ¬ a ≤ b → Z lay t d (pc + 3) ls st I J Q) : Z lay t d pc ls (.int y :: .int x :: st) I J Q := by
  subst hx
  subst hy
  exact z_icmp_le hd ht (fun h => kt ((nI_leI ha hb).mp h)) (fun h => kf (fun q => h ((nI_leI ha hb).mpr q)))
theorem z_icmp_geN {a b : Nat} {x y : Int32} {off : Int} {tgt : Nat} (hx : x = nI a) (hy : y = nI b) (hd : decode t.2.1 pc = .ok (.if_icmp .ge off, 3)) (ht : (pc : Int) + off = (tgt : Int)) (ha : a < 2147483648) (hb : b < 2147483648) (kt : b ≤ a → Z lay t d tgt ls st I J Q) (kf : ¬ b ≤ a → Z lay t d (pc + 3) ls st I J Q) : Z lay t d pc ls (.int y :: .int x :: st) I J Q := by
  subst hx
  subst hy
  exact z_icmp_ge hd ht (fun h => kt ((nI_leI hb ha).mp h)) (fun h => kf (fun q => h ((nI_leI hb ha).mpr q)))
theorem z_icmp_gtN {a b : Nat} {x y : Int32} {off : Int} {tgt : Nat} (hx : x = nI a) (hy : y = nI b) (hd : decode t.2.1 pc = .ok (.if_icmp .gt off, 3)) (ht : (pc : Int) + off = (tgt : Int)) (ha : a < 2147483648) (hb : b < 2147483648) (kt : b < a → Z lay t d tgt ls st I J Q) (kf : ¬ b < a → Z lay t d (pc + 3) ls st I J Q) : Z lay t d pc ls (.int y :: .int x :: st) I J Q := by
  subst hx
  subst hy
  exact z_icmp_gt hd ht (fun h => kt ((nI_ltI hb ha).mp h)) (fun h => kf (fun q => h ((nI_ltI hb ha).mpr q)))
theorem z_icmp_neN {a b : Nat} {x y : Int32} {off : Int} {tgt : Nat} (hx : x = nI a) (hy : y = nI b) (hd : decode t.2.1 pc = .ok (.if_icmp .ne off, 3)) (ht : (pc : Int) + off = (tgt : Int)) (ha : a < 2147483648) (hb : b < 2147483648) (kt : ¬ a = b → Z lay t d tgt ls st I J Q) (kf : a = b → Z lay t d (pc + 3) ls st I J Q) : Z lay t d pc ls (.int y :: .int x :: st) I J Q := by
  subst hx
  subst hy
  exact z_icmp_ne hd ht (fun h => kt (fun q => h (by rw [q]))) (fun h => kf ((nI_eq ha hb).mp h))
theorem z_if_eqN {a : Nat} {x : Int32} {off : Int} {tgt : Nat} (hx : x = nI a) (hd : decode t.2.1 pc = .ok (.ifCond .eq off, 3)) (ht : (pc : Int) + off = (tgt : Int)) (ha : a < 2147483648) (kt : a = 0 → Z lay t d tgt ls st I J Q) (kf : ¬ a = 0 → Z lay t d (pc + 3) ls st I J Q) : Z lay t d pc ls (.int x :: st) I J Q := by
  subst hx
  exact z_if_eq hd ht (fun h => kt ((nI_eq (b := 0) ha (by decide)).mp h)) (fun h => kf (fun q => h ((nI_eq (b := 0) ha (by decide)).mpr q)))
theorem z_if_neN {a : Nat} {x : Int32} {off : Int} {tgt : Nat} (hx : x = nI a) (hd : decode t.2.1 pc = .ok (.ifCond .ne off, 3)) (ht : (pc : Int) + off = (tgt : Int)) (ha : a < 2147483648) (kt : ¬ a = 0 → Z lay t d tgt ls st I J Q) (kf : a = 0 → Z lay t d (pc + 3) ls st I J Q) : Z lay t d pc ls (.int x :: st) I J Q := by
  subst hx
  exact z_if_ne hd ht (fun h => kt (fun q => h ((nI_eq (b := 0) ha (by decide)).mpr q))) (fun h => kf ((nI_eq (b := 0) ha (by decide)).mp h))
theorem z_if_ltN {a : Nat} {x : Int32} {off : Int} {tgt : Nat} (hx : x = nI a) (hd : decode t.2.1 pc = .ok (.ifCond .lt off, 3)) (ht : (pc : Int) + off = (tgt : Int)) (ha : a < 2147483648) (kt : False → Z lay t d tgt ls st I J Q) (kf : True → Z lay t d (pc + 3) ls st I J Q) : Z lay t d pc ls (.int x :: st) I J Q := by
  subst hx
  exact z_if_lt hd ht (fun h => kt (nI_pos ha h)) (fun h => kf (trivial))
theorem z_if_geN {a : Nat} {x : Int32} {off : Int} {tgt : Nat} (hx : x = nI a) (hd : decode t.2.1 pc = .ok (.ifCond .ge off, 3)) (ht : (pc : Int) + off = (tgt : Int)) (ha : a < 2147483648) (kt : True → Z lay t d tgt ls st I J Q) (kf : False → Z lay t d (pc + 3) ls st I J Q) : Z lay t d pc ls (.int x :: st) I J Q := by
  subst hx
  exact z_if_ge hd ht (fun h => kt (trivial)) (fun h => kf (h (nI_pos' ha)))
theorem z_if_gtN {a : Nat} {x : Int32} {off : Int} {tgt : Nat} (hx : x = nI a) (hd : decode t.2.1 pc = .ok (.ifCond .gt off, 3)) (ht : (pc : Int) + off = (tgt : Int)) (ha : a < 2147483648) (kt : 0 < a → Z lay t d tgt ls st I J Q) (kf : a = 0 → Z lay t d (pc + 3) ls st I J Q) : Z lay t d pc ls (.int x :: st) I J Q := by
  subst hx
  exact z_if_gt hd ht (fun h => kt (Nat.pos_of_ne_zero fun q => by subst q; exact absurd h (by decide))) (fun h => kf (by
    rcases Nat.eq_zero_or_pos a with q | q
    · exact q
    · exact absurd ((nI_ltI (a := 0) (by decide) ha).mpr q) h))
theorem z_if_leN {a : Nat} {x : Int32} {off : Int} {tgt : Nat} (hx : x = nI a) (hd : decode t.2.1 pc = .ok (.ifCond .le off, 3)) (ht : (pc : Int) + off = (tgt : Int)) (ha : a < 2147483648) (kt : a = 0 → Z lay t d tgt ls st I J Q) (kf : 0 < a → Z lay t d (pc + 3) ls st I J Q) : Z lay t d pc ls (.int x :: st) I J Q := by
  subst hx
  exact z_if_le hd ht (fun h => kt (by
    rcases Nat.eq_zero_or_pos a with q | q
    · exact q
    · exact absurd h (nI_nle q ha))) (fun h => kf (by
    rcases Nat.eq_zero_or_pos a with q | q
    · subst q; exact absurd (by decide) h
    · exact q))
theorem lg_le (x y : Int64) : lg_cmp x y ≤ 0 ↔ x ≤ y := by
  unfold lg_cmp
  have hle := Int64.le_iff_toInt_le (x := x) (y := y)
  have hlt := Int64.lt_iff_toInt_lt (x := y) (y := x)
  have heq := Int64.toInt_inj (x := x) (y := y)
  split
  · rename_i h
    have h1 := hlt.mp h
    exact ⟨fun q => absurd q (by decide), fun q => by have := hle.mp q; omega⟩
  · split
    · rename_i h1 h2
      subst h2
      exact ⟨fun _ => Int64.le_refl _, fun _ => by decide⟩
    · rename_i h1 h2
      refine ⟨fun _ => hle.mpr ?_, fun _ => by decide⟩
      have : ¬ y.toInt < x.toInt := fun q => h1 (hlt.mpr q)
      omega
theorem lg_ge (x y : Int64) : 0 ≤ lg_cmp x y ↔ y ≤ x := by
  unfold lg_cmp
  have hle := Int64.le_iff_toInt_le (x := y) (y := x)
  have hlt := Int64.lt_iff_toInt_lt (x := y) (y := x)
  have heq := Int64.toInt_inj (x := x) (y := y)
  split
  · rename_i h
    have h1 := hlt.mp h
    exact ⟨fun q => hle.mpr (by omega), fun q => by decide⟩
  · split
    · rename_i h1 h2
      subst h2
      exact ⟨fun _ => Int64.le_refl _, fun _ => by decide⟩
    · rename_i h1 h2
      refine ⟨fun q => absurd q (by decide), fun q => ?_⟩
      have h3 := hle.mp q
      have : ¬ y.toInt < x.toInt := fun q => h1 (hlt.mpr q)
      exact absurd (heq.mp (by omega)) h2
theorem lg_eq (x y : Int64) : lg_cmp x y = 0 ↔ x = y := by
  unfold lg_cmp
  split
  · rename_i h
    refine ⟨fun q => absurd q (by decide), fun q => ?_⟩
    subst q
    exact absurd h (Int64.lt_irrefl)
  · split
    · rename_i h1 h2
      exact ⟨fun _ => h2, fun _ => rfl⟩
    · rename_i h1 h2
      exact ⟨fun q => absurd q (by decide), fun q => absurd q h2⟩
theorem lg_lt (x y : Int64) : lg_cmp x y < 0 ↔ x < y := by
  rw [← Int32.not_le, lg_ge, Int64.not_le]
theorem lg_gt (x y : Int64) : 0 < lg_cmp x y ↔ y < x := by
  rw [← Int32.not_le, lg_le, Int64.not_le]
theorem z_lc_le {x y : Int64} {off : Int} {pc1 tgt : Nat} (hd : decode t.2.1 pc = .ok (.lcmp, 1)) (hp : pc + 1 = pc1) (hd2 : decode t.2.1 pc1 = .ok (.ifCond .le off, 3)) (ht : (pc1 : Int) + off = (tgt : Int)) (kt : x ≤ y → Z lay t d tgt ls st I J Q) (kf : ¬ x ≤ y → Z lay t d (pc1 + 3) ls st I J Q) : Z lay t d pc ls (.long y :: .long x :: st) I J Q := by
  subst hp
  exact z_lcmp hd (z_if_le hd2 ht (fun h => kt ((lg_le x y).mp h)) (fun h => kf (fun q => h ((lg_le x y).mpr q))))
theorem z_lc_ge {x y : Int64} {off : Int} {pc1 tgt : Nat} (hd : decode t.2.1 pc = .ok (.lcmp, 1)) (hp : pc + 1 = pc1) (hd2 : decode t.2.1 pc1 = .ok (.ifCond .ge off, 3)) (ht : (pc1 : Int) + off = (tgt : Int)) (kt : y ≤ x → Z lay t d tgt ls st I J Q) (kf : ¬ y ≤ x → Z lay t d (pc1 + 3) ls st I J Q) : Z lay t d pc ls (.long y :: .long x :: st) I J Q := by
  subst hp
  exact z_lcmp hd (z_if_ge hd2 ht (fun h => kt ((lg_ge x y).mp h)) (fun h => kf (fun q => h ((lg_ge x y).mpr q))))
theorem z_lc_eq {x y : Int64} {off : Int} {pc1 tgt : Nat} (hd : decode t.2.1 pc = .ok (.lcmp, 1)) (hp : pc + 1 = pc1) (hd2 : decode t.2.1 pc1 = .ok (.ifCond .eq off, 3)) (ht : (pc1 : Int) + off = (tgt : Int)) (kt : x = y → Z lay t d tgt ls st I J Q) (kf : ¬ x = y → Z lay t d (pc1 + 3) ls st I J Q) : Z lay t d pc ls (.long y :: .long x :: st) I J Q := by
  subst hp
  exact z_lcmp hd (z_if_eq hd2 ht (fun h => kt ((lg_eq x y).mp h)) (fun h => kf (fun q => h ((lg_eq x y).mpr q))))
theorem z_lc_ne {x y : Int64} {off : Int} {pc1 tgt : Nat} (hd : decode t.2.1 pc = .ok (.lcmp, 1)) (hp : pc + 1 = pc1) (hd2 : decode t.2.1 pc1 = .ok (.ifCond .ne off, 3)) (ht : (pc1 : Int) + off = (tgt : Int)) (kt : ¬ x = y → Z lay t d tgt ls st I J Q) (kf : x = y → Z lay t d (pc1 + 3) ls st I J Q) : Z lay t d pc ls (.long y :: .long x :: st) I J Q := by
  subst hp
  exact z_lcmp hd (z_if_ne hd2 ht (fun h => kt (fun q => h ((lg_eq x y).mpr q))) (fun h => kf ((lg_eq x y).mp h)))
theorem z_lc_lt {x y : Int64} {off : Int} {pc1 tgt : Nat} (hd : decode t.2.1 pc = .ok (.lcmp, 1)) (hp : pc + 1 = pc1) (hd2 : decode t.2.1 pc1 = .ok (.ifCond .lt off, 3)) (ht : (pc1 : Int) + off = (tgt : Int)) (kt : x < y → Z lay t d tgt ls st I J Q) (kf : ¬ x < y → Z lay t d (pc1 + 3) ls st I J Q) : Z lay t d pc ls (.long y :: .long x :: st) I J Q := by
  subst hp
  exact z_lcmp hd (z_if_lt hd2 ht (fun h => kt ((lg_lt x y).mp h)) (fun h => kf (fun q => h ((lg_lt x y).mpr q))))
theorem z_lc_gt {x y : Int64} {off : Int} {pc1 tgt : Nat} (hd : decode t.2.1 pc = .ok (.lcmp, 1)) (hp : pc + 1 = pc1) (hd2 : decode t.2.1 pc1 = .ok (.ifCond .gt off, 3)) (ht : (pc1 : Int) + off = (tgt : Int)) (kt : y < x → Z lay t d tgt ls st I J Q) (kf : ¬ y < x → Z lay t d (pc1 + 3) ls st I J Q) : Z lay t d pc ls (.long y :: .long x :: st) I J Q := by
  subst hp
  exact z_lcmp hd (z_if_gt hd2 ht (fun h => kt ((lg_gt x y).mp h)) (fun h => kf (fun q => h ((lg_gt x y).mpr q))))
theorem z_lc_leN {a b : Nat} {x y : Int64} {off : Int} {pc1 tgt : Nat} (hx : x = lN a) (hy : y = lN b) (hd : decode t.2.1 pc = .ok (.lcmp, 1)) (hp : pc + 1 = pc1) (hd2 : decode t.2.1 pc1 = .ok (.ifCond .le off, 3)) (ht : (pc1 : Int) + off = (tgt : Int)) (ha : a < 9223372036854775808) (hb : b < 9223372036854775808) (kt : a ≤ b → Z lay t d tgt ls st I J Q) (kf : ¬ a ≤ b → Z lay t d (pc1 + 3) ls st I J Q) : Z lay t d pc ls (.long y :: .long x :: st) I J Q := by
  subst hx
  subst hy
  exact z_lc_le hd hp hd2 ht (fun h => kt ((pk_lLE ha hb).mp h)) (fun h => kf (fun q => h ((pk_lLE ha hb).mpr q)))
theorem z_lc_geN {a b : Nat} {x y : Int64} {off : Int} {pc1 tgt : Nat} (hx : x = lN a) (hy : y = lN b) (hd : decode t.2.1 pc = .ok (.lcmp, 1)) (hp : pc + 1 = pc1) (hd2 : decode t.2.1 pc1 = .ok (.ifCond .ge off, 3)) (ht : (pc1 : Int) + off = (tgt : Int)) (ha : a < 9223372036854775808) (hb : b < 9223372036854775808) (kt : b ≤ a → Z lay t d tgt ls st I J Q) (kf : ¬ b ≤ a → Z lay t d (pc1 + 3) ls st I J Q) : Z lay t d pc ls (.long y :: .long x :: st) I J Q := by
  subst hx
  subst hy
  exact z_lc_ge hd hp hd2 ht (fun h => kt ((pk_lLE hb ha).mp h)) (fun h => kf (fun q => h ((pk_lLE hb ha).mpr q)))
theorem z_lc_eqN {a b : Nat} {x y : Int64} {off : Int} {pc1 tgt : Nat} (hx : x = lN a) (hy : y = lN b) (hd : decode t.2.1 pc = .ok (.lcmp, 1)) (hp : pc + 1 = pc1) (hd2 : decode t.2.1 pc1 = .ok (.ifCond .eq off, 3)) (ht : (pc1 : Int) + off = (tgt : Int)) (ha : a < 9223372036854775808) (hb : b < 9223372036854775808) (kt : a = b → Z lay t d tgt ls st I J Q) (kf : ¬ a = b → Z lay t d (pc1 + 3) ls st I J Q) : Z lay t d pc ls (.long y :: .long x :: st) I J Q := by
  subst hx
  subst hy
  exact z_lc_eq hd hp hd2 ht (fun h => kt ((pk_lEQ ha hb).mp h)) (fun h => kf (fun q => h ((pk_lEQ ha hb).mpr q)))
theorem z_lc_neN {a b : Nat} {x y : Int64} {off : Int} {pc1 tgt : Nat} (hx : x = lN a) (hy : y = lN b) (hd : decode t.2.1 pc = .ok (.lcmp, 1)) (hp : pc + 1 = pc1) (hd2 : decode t.2.1 pc1 = .ok (.ifCond .ne off, 3)) (ht : (pc1 : Int) + off = (tgt : Int)) (ha : a < 9223372036854775808) (hb : b < 9223372036854775808) (kt : ¬ a = b → Z lay t d tgt ls st I J Q) (kf : a = b → Z lay t d (pc1 + 3) ls st I J Q) : Z lay t d pc ls (.long y :: .long x :: st) I J Q := by
  subst hx
  subst hy
  exact z_lc_ne hd hp hd2 ht (fun h => kt (fun q => h ((pk_lEQ ha hb).mpr q))) (fun h => kf ((pk_lEQ ha hb).mp h))
theorem z_lc_ltN {a b : Nat} {x y : Int64} {off : Int} {pc1 tgt : Nat} (hx : x = lN a) (hy : y = lN b) (hd : decode t.2.1 pc = .ok (.lcmp, 1)) (hp : pc + 1 = pc1) (hd2 : decode t.2.1 pc1 = .ok (.ifCond .lt off, 3)) (ht : (pc1 : Int) + off = (tgt : Int)) (ha : a < 9223372036854775808) (hb : b < 9223372036854775808) (kt : a < b → Z lay t d tgt ls st I J Q) (kf : ¬ a < b → Z lay t d (pc1 + 3) ls st I J Q) : Z lay t d pc ls (.long y :: .long x :: st) I J Q := by
  subst hx
  subst hy
  exact z_lc_lt hd hp hd2 ht (fun h => kt ((pk_lLT ha hb).mp h)) (fun h => kf (fun q => h ((pk_lLT ha hb).mpr q)))
theorem z_lc_gtN {a b : Nat} {x y : Int64} {off : Int} {pc1 tgt : Nat} (hx : x = lN a) (hy : y = lN b) (hd : decode t.2.1 pc = .ok (.lcmp, 1)) (hp : pc + 1 = pc1) (hd2 : decode t.2.1 pc1 = .ok (.ifCond .gt off, 3)) (ht : (pc1 : Int) + off = (tgt : Int)) (ha : a < 9223372036854775808) (hb : b < 9223372036854775808) (kt : b < a → Z lay t d tgt ls st I J Q) (kf : ¬ b < a → Z lay t d (pc1 + 3) ls st I J Q) : Z lay t d pc ls (.long y :: .long x :: st) I J Q := by
  subst hx
  subst hy
  exact z_lc_gt hd hp hd2 ht (fun h => kt ((pk_lLT hb ha).mp h)) (fun h => kf (fun q => h ((pk_lLT hb ha).mpr q)))
theorem zMn : Cond.static Lib.Math.min.name ∈ zTb ∧ Cond.initialized "java/lang/Math" ∈ zTb ∧ Cond.code Lib.Math.min.name Lib.Math.min.code 2 (some .int) ∈ zTb := ⟨s_MJ9_min_7cf53, i_RJ9, k_MJ9_min_7cf53⟩
theorem zMa : Cond.static Lib.MathLoose.abs_long.x ∈ zTb ∧ Cond.initialized "java/lang/Math" ∈ zTb ∧ Cond.code Lib.MathLoose.abs_long.x Lib.MathLoose.abs_long.code 2 (some .long) ∈ zTb := ⟨s_MJ9_abs_067f4, i_RJ9, k_MJ9_abs_067f4⟩
theorem z_mmin {idx a b : Nat} {x y : Int32} (hd : decode t.2.1 pc = .ok (.invokestatic idx, 3)) (hlk : Cond.methodLink t.1.cls idx yJ9_min_7cf53 ∈ zTb) (hx : x = nI a) (hy : y = nI b) (ha : a < 2147483648) (hb : b < 2147483648) (hdd : 1 ≤ d) (hr : (st.map fun v => v.category).sum ≤ 8) (k : Z lay t d (pc + 3) ls (.int (nI (min a b)) :: st) I J Q) : Z lay t d pc ls (.int y :: .int x :: st) I J Q := by
  subst hx
  subst hy
  intro l dC dI cI cJ cR ad p e' s m args below meth c A H locs lsr C K hA P D S L
  refine va_mmin C.1 C.2.1 (by obtain ⟨h1, lv, h2, h3⟩ := L; rw [C.2.2.1]; exact h2.1.symm) C.2.2.2.2.1 (C.2.2.2.2.2.1 _ hlk) (C.2.2.2.2.2.1 _ zMn.1) (C.2.2.2.2.2.1 _ zMn.2.1) (C.2.2.2.2.2.1 _ zMn.2.2) hdd (by rw [zrf_cats]; show _ ≤ 60 * d; omega) (Nat.zero_le _) (Nat.zero_le _) hd ?_
  have e9 : (if nI b < nI a then nI b else nI a) = nI (min a b) := by
    rcases Nat.lt_or_ge b a with q | q
    · rw [if_pos ((nI_ltI hb ha).mpr q), Nat.min_eq_right (by omega)]
    · rw [if_neg (fun w => by have := (nI_ltI hb ha).mp w; omega), Nat.min_eq_left q]
  rw [e9]
  exact k l dC dI cI cJ cR ad p e' s m args below meth c A H locs lsr C K hA P D S L
theorem z_mabs {idx : Nat} {x v : Int64} (hd : decode t.2.1 pc = .ok (.invokestatic idx, 3)) (hlk : Cond.methodLink t.1.cls idx yJ9_abs_067f4 ∈ zTb) (hv : (if 0 < x then x else -x) = v) (hdd : 1 ≤ d) (hr : (st.map fun v => v.category).sum ≤ 8) (k : Z lay t d (pc + 3) ls (.long v :: st) I J Q) : Z lay t d pc ls (.long x :: st) I J Q := by
  subst hv
  intro l dC dI cI cJ cR ad p e' s m args below meth c A H locs lsr C K hA P D S L
  exact va_mabs_long C.1 C.2.1 (by obtain ⟨h1, lv, h2, h3⟩ := L; rw [C.2.2.1]; exact h2.1.symm) C.2.2.2.2.1 (C.2.2.2.2.2.1 _ hlk) (C.2.2.2.2.2.1 _ zMa.1) (C.2.2.2.2.2.1 _ zMa.2.1) (C.2.2.2.2.2.1 _ zMa.2.2) hdd (by rw [zrf_cats]; show _ ≤ 60 * d; omega) (Nat.zero_le _) (Nat.zero_le _) hd (k l dC dI cI cJ cR ad p e' s m args below meth c A H locs lsr C K hA P D S L)
end ZN
