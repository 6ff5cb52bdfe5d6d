/-! ===== the class's constructors ===== -/
theorem Y_ws {dC : Nat → ClassId} {dI : Nat → Nat → Nat} {cI cJ cR : ClassId} {R : Room} {n k : Nat} {E : gE} {B0 : (Nat → Prop) → Array Value → State → Prop} {t : zM} {pc : Nat} {ls st : List Value} {ws ws' : va_W} (hw : ws = ws') (kk : Y dC dI cI cJ cR R n k E B0 t pc ls st ws') : Y dC dI cI cJ cR R n k E B0 t pc ls st ws := hw ▸ kk
def layF : List zL := [.inl (0, [1, 1])]
def layN (e : Nat) : List zL := [.inl (1, [0, 0, 3, 4]), .inr (.inl e), .inr (.inl e)]
def layU : List zL := [.inl (3, [3, 4, 0, 0]), .inr (.inr (.inl 4)), .inr (.inr (.inl 4))]
def layX : List zL := [.inl (5, [3, 0]), .inr (.inl 100)]
def layS : List zL := [.inl (6, [0, 0, 0, 3, 4, 5]), .inr (.inl 9), .inr (.inl 9), .inr (.inl 9)]
def layT : List zL := [.inl (7, [3, 4, 0, 5, 6]), .inr (.inr (.inl 9)), .inr (.inr (.inl 9))] ++ layF.map (zsh 3) ++ layF.map (zsh 4)
def layR : List zL := [.inl (4, [3, 4, 5, 6, 7, 8, 9, 0, 0]), .inr (.inl 9), .inr (.inl 9), .inr (.inl 9), .inr (.inl 7), .inr (.inl 7)] ++ layF.map (zsh 6) ++ layF.map (zsh 7)
def layQ : List zL := [.inl (8, [3, 4, 5]), .inr (.inr (.inr [4, 5, 6, 7, 8, 9])), .inr (.inl 6), .inr (.inl 6), .inr (.inr (.inl 60)), .inr (.inr (.inl 60)), .inr (.inr (.inl 60)), .inr (.inr (.inl 60)), .inr (.inr (.inl 60)), .inr (.inr (.inl 60))]
def layP : List zL := [.inl (2, [3, 7, 12, 15, 18])] ++ layS.map (zsh 1) ++ layT.map (zsh 5) ++ (layN 5).map (zsh 10) ++ (layN 8).map (zsh 13) ++ (layN 8).map (zsh 16)
def layC : List zL := [.inl (9, [3, 22, 0, 69, 71, 61, 41, 45, 50, 55, 56, 57, 58])] ++ layP.map (zsh 1) ++ layP.map (zsh 20) ++ layS.map (zsh 39) ++ layT.map (zsh 43) ++ layT.map (zsh 48) ++ layF.map (zsh 53) ++ layF.map (zsh 54) ++ layF.map (zsh 55) ++ layU.map (zsh 56) ++ layR.map (zsh 59) ++ layX.map (zsh 67) ++ layQ.map (zsh 69)
def n0 : Nat → Nat := zsize (fun _ => 0) 2 2
def adL (l : List Nat) : Nat → Nat := fun x => l.getD x 0
def I1n (m : Nat) : zI := fun x => match x with | 0 => (fun y => match y with | 0 => nI m | _ => 0) | _ => fun _ => 0
def J0f : zJ := fun _ y => match y with | 1 => lN 1 | _ => 0
set_option maxHeartbeats 2000000 in
set_option maxRecDepth 20000 in
theorem c_X0_init : yMet layF MX0_init 1 0 0 (fun _ _ _ h => [(h, .inr (0, [.long 0, .long 0]))]) [] (fun h ad I J => ad 0 = h ∧ True) := by
  refine yMet_of (t := MX0_init) (ls := fun h => [.ref h]) (by decide +kernel) rfl (fun _ => Nat.le_of_ble_eq_true rfl) (fun _ => rfl) (fun dC dI cI cJ cR h => ?_)
  refine Y_aload_n (pc := 0) dX0_init_0 rfl rfl ?_
  refine Y_objInit (pc := 1) dX0_init_1 lo_RX0_3 (Nat.le_of_ble_eq_true rfl) (Nat.le_of_ble_eq_true rfl) ?_
  refine Y_aload_n (pc := 4) dX0_init_4 rfl rfl ?_
  refine Y_lconst (pc := 5) (v := lN 1) dX0_init_5 rfl ?_
  refine Y_put (pc := 6) dX0_init_6 f_RX0_9 rfl rfl (Nat.le_of_ble_eq_true rfl) ?_
  refine Y_ws (ws' := [(h, .inr (0, [.long 0, .long (lN 1)]))]) rfl ?_
  exact Y_vret (pc := 9) (lay := layF) (ad := adL [h]) (I := fun _ _ => 0) (J := J0f) dX0_init_9 rfl (List.Perm.refl _) ⟨rfl, trivial⟩
theorem Y_cs {dC : Nat → ClassId} {dI : Nat → Nat → Nat} {cI cJ cR : ClassId} {R : Room} {n k n' k' : Nat} {E : gE} {B0 : (Nat → Prop) → Array Value → State → Prop} {t : zM} {pc : Nat} {ls st : List Value} {ws : va_W} (hn : n = n') (hk : k = k') (kk : Y dC dI cI cJ cR R n' k' E B0 t pc ls st ws) : Y dC dI cI cJ cR R n k E B0 t pc ls st ws := by
  subst hn; subst hk; exact kk
set_option maxHeartbeats 2000000 in
set_option maxRecDepth 20000 in
theorem c_X1_init {most : Nat} (hm : most ≤ 1000) : yMet (layN most) MX1_init 1 2 (most + most) (fun _ _ _ h => [(h, .inr (1, [.int 0, .int 0, .null, .null]))]) [.int (nI most)] (fun h ad I J => ad 0 = h ∧ (I 0 0 = nI most ∧ I 0 1 = nI 0)) := by
  refine yMet_of (t := MX1_init) (ls := fun h => [.ref h, .int (nI most)]) (by decide +kernel) rfl (fun _ => Nat.le_of_ble_eq_true rfl) (fun _ => rfl) (fun dC dI cI cJ cR h => ?_)
  refine Y_aload_n (pc := 0) dX1_init_0 rfl rfl ?_
  refine Y_objInit (pc := 1) dX1_init_1 lo_RX1_3 (Nat.le_of_ble_eq_true rfl) (Nat.le_of_ble_eq_true rfl) ?_
  refine Y_aload_n (pc := 4) dX1_init_4 rfl rfl ?_
  refine Y_iconst (pc := 5) (v := nI 0) dX1_init_5 (by decide) ?_
  refine Y_iload_n (pc := 6) dX1_init_6 rfl rfl ?_
  refine Y_mmax (pc := 7) dX1_init_7 l_RX1_9 rfl rfl (by omega) (Nat.le_of_ble_eq_true rfl) (Nat.le_of_ble_eq_true rfl) ⟨Nat.le_of_ble_eq_true rfl, by show _ ≤ most + most; omega⟩ ?_
  refine Y_putF (pc := 10) dX1_init_10 f_RX1_15 rfl rfl rfl rfl rfl (Nat.le_of_ble_eq_true rfl) ?_
  refine Y_ws (ws' := [(h, .inr (1, [.int (nI most), .int 0, .null, .null]))]) rfl ?_
  refine Y_aload_n (pc := 13) dX1_init_13 rfl rfl ?_
  refine Y_aload_n (pc := 14) dX1_init_14 rfl rfl ?_
  refine Y_getf (pc := 15) dX1_init_15 f_RX1_15 rfl ?_
  refine Y_newI (pc := 18) dX1_init_18 rfl (by omega) ⟨Nat.le_of_ble_eq_true rfl, by show _ ≤ most + most; omega⟩ (fun q18 => ?_)
  refine Y_ws (ws' := (h, .inr (1, [.int (nI most), .int 0, .null, .null])) :: ([(q18, .inl (cI, most, .inl (fun _ => 0)))])) rfl ?_
  refine Y_putF (pc := 20) dX1_init_20 f_RX1_21 rfl rfl rfl rfl rfl (Nat.le_of_ble_eq_true rfl) ?_
  refine Y_ws (ws' := (h, .inr (1, [.int (nI most), .int 0, .ref q18, .null])) :: ([(q18, .inl (cI, most, .inl (fun _ => 0)))])) rfl ?_
  refine Y_aload_n (pc := 23) dX1_init_23 rfl rfl ?_
  refine Y_aload_n (pc := 24) dX1_init_24 rfl rfl ?_
  refine Y_getf (pc := 25) dX1_init_25 f_RX1_15 rfl ?_
  refine Y_newI (pc := 28) dX1_init_28 rfl (by omega) ⟨Nat.le_of_ble_eq_true rfl, by show _ ≤ most + most; omega⟩ (fun q28 => ?_)
  refine Y_ws (ws' := (h, .inr (1, [.int (nI most), .int 0, .ref q18, .null])) :: ([(q18, .inl (cI, most, .inl (fun _ => 0)))] ++ [(q28, .inl (cI, most, .inl (fun _ => 0)))])) rfl ?_
  refine Y_putF (pc := 30) dX1_init_30 f_RX1_25 rfl rfl rfl rfl rfl (Nat.le_of_ble_eq_true rfl) ?_
  refine Y_ws (ws' := (h, .inr (1, [.int (nI most), .int 0, .ref q18, .ref q28])) :: ([(q18, .inl (cI, most, .inl (fun _ => 0)))] ++ [(q28, .inl (cI, most, .inl (fun _ => 0)))])) rfl ?_
  refine Y_cs (n' := 2) (k' := most + most) rfl (by omega) ?_
  exact Y_vret (pc := 33) (lay := layN most) (ad := adL [h, q18, q28]) (I := I1n most) (J := fun _ _ => 0) dX1_init_33 rfl (List.Perm.refl _) ⟨rfl, rfl, rfl⟩
set_option maxHeartbeats 2000000 in
set_option maxRecDepth 20000 in
theorem c_X3_init : yMet layU MX3_init 1 2 8 (fun _ _ _ h => [(h, .inr (3, [.null, .null, .int 0, .int 0]))]) [] (fun h ad I J => ad 0 = h ∧ True) := by
  refine yMet_of (t := MX3_init) (ls := fun h => [.ref h]) (by decide +kernel) rfl (fun _ => Nat.le_of_ble_eq_true rfl) (fun _ => rfl) (fun dC dI cI cJ cR h => ?_)
  refine Y_aload_n (pc := 0) dX3_init_0 rfl rfl ?_
  refine Y_objInit (pc := 1) dX3_init_1 lo_RX3_3 (Nat.le_of_ble_eq_true rfl) (Nat.le_of_ble_eq_true rfl) ?_
  refine Y_aload_n (pc := 4) dX3_init_4 rfl rfl ?_
  refine Y_iconst (pc := 5) (v := nI 4) dX3_init_5 (by decide) ?_
  refine Y_newJ (pc := 6) dX3_init_6 rfl (by decide) ⟨Nat.le_of_ble_eq_true rfl, Nat.le_of_ble_eq_true rfl⟩ (fun q6 => ?_)
  refine Y_ws (ws' := (h, .inr (3, [.null, .null, .int 0, .int 0])) :: ([(q6, .inl (cJ, 4, .inr (.inl (fun _ => 0))))])) rfl ?_
  refine Y_putF (pc := 8) dX3_init_8 f_RX3_11 rfl rfl rfl rfl rfl (Nat.le_of_ble_eq_true rfl) ?_
  refine Y_ws (ws' := (h, .inr (3, [.ref q6, .null, .int 0, .int 0])) :: ([(q6, .inl (cJ, 4, .inr (.inl (fun _ => 0))))])) rfl ?_
  refine Y_aload_n (pc := 11) dX3_init_11 rfl rfl ?_
  refine Y_iconst (pc := 12) (v := nI 4) dX3_init_12 (by decide) ?_
  refine Y_newJ (pc := 13) dX3_init_13 rfl (by decide) ⟨Nat.le_of_ble_eq_true rfl, Nat.le_of_ble_eq_true rfl⟩ (fun q13 => ?_)
  refine Y_ws (ws' := (h, .inr (3, [.ref q6, .null, .int 0, .int 0])) :: ([(q6, .inl (cJ, 4, .inr (.inl (fun _ => 0))))] ++ [(q13, .inl (cJ, 4, .inr (.inl (fun _ => 0))))])) rfl ?_
  refine Y_putF (pc := 15) dX3_init_15 f_RX3_15 rfl rfl rfl rfl rfl (Nat.le_of_ble_eq_true rfl) ?_
  refine Y_ws (ws' := (h, .inr (3, [.ref q6, .ref q13, .int 0, .int 0])) :: ([(q6, .inl (cJ, 4, .inr (.inl (fun _ => 0))))] ++ [(q13, .inl (cJ, 4, .inr (.inl (fun _ => 0))))])) rfl ?_
  exact Y_vret (pc := 18) (lay := layU) (ad := adL [h, q6, q13]) (I := fun _ _ => 0) (J := fun _ _ => 0) dX3_init_18 rfl (List.Perm.refl _) ⟨rfl, trivial⟩
set_option maxHeartbeats 2000000 in
set_option maxRecDepth 20000 in
theorem c_X5_init : yMet layX MX5_init 1 1 100 (fun _ _ _ h => [(h, .inr (5, [.null, .int 0]))]) [] (fun h ad I J => ad 0 = h ∧ I 0 1 = nI 0) := by
  refine yMet_of (t := MX5_init) (ls := fun h => [.ref h]) (by decide +kernel) rfl (fun _ => Nat.le_of_ble_eq_true rfl) (fun _ => rfl) (fun dC dI cI cJ cR h => ?_)
  refine Y_aload_n (pc := 0) dX5_init_0 rfl rfl ?_
  refine Y_objInit (pc := 1) dX5_init_1 lo_RX5_3 (Nat.le_of_ble_eq_true rfl) (Nat.le_of_ble_eq_true rfl) ?_
  refine Y_aload_n (pc := 4) dX5_init_4 rfl rfl ?_
  refine Y_bipush (pc := 5) (v := nI 100) dX5_init_5 (by decide) ?_
  refine Y_newI (pc := 7) dX5_init_7 rfl (by decide) ⟨Nat.le_of_ble_eq_true rfl, Nat.le_of_ble_eq_true rfl⟩ (fun q7 => ?_)
  refine Y_ws (ws' := (h, .inr (5, [.null, .int 0])) :: ([(q7, .inl (cI, 100, .inl (fun _ => 0)))])) rfl ?_
  refine Y_putF (pc := 9) dX5_init_9 f_RX5_9 rfl rfl rfl rfl rfl (Nat.le_of_ble_eq_true rfl) ?_
  refine Y_ws (ws' := (h, .inr (5, [.ref q7, .int 0])) :: ([(q7, .inl (cI, 100, .inl (fun _ => 0)))])) rfl ?_
  exact Y_vret (pc := 12) (lay := layX) (ad := adL [h, q7]) (I := fun _ _ => 0) (J := fun _ _ => 0) dX5_init_12 rfl (List.Perm.refl _) ⟨rfl, rfl⟩
set_option maxHeartbeats 2000000 in
set_option maxRecDepth 20000 in
theorem c_X6_init : yMet layS MX6_init 1 3 27 (fun _ _ _ h => [(h, .inr (6, [.int 0, .int 0, .int 0, .null, .null, .null]))]) [] (fun h ad I J => ad 0 = h ∧ vS I 0 n0) := by
  refine yMet_of (t := MX6_init) (ls := fun h => [.ref h]) (by decide +kernel) rfl (fun _ => Nat.le_of_ble_eq_true rfl) (fun _ => rfl) (fun dC dI cI cJ cR h => ?_)
  refine Y_aload_n (pc := 0) dX6_init_0 rfl rfl ?_
  refine Y_objInit (pc := 1) dX6_init_1 lo_RX6_3 (Nat.le_of_ble_eq_true rfl) (Nat.le_of_ble_eq_true rfl) ?_
  refine Y_aload_n (pc := 4) dX6_init_4 rfl rfl ?_
  refine Y_bipush (pc := 5) (v := nI 9) dX6_init_5 (by decide) ?_
  refine Y_newI (pc := 7) dX6_init_7 rfl (by decide) ⟨Nat.le_of_ble_eq_true rfl, Nat.le_of_ble_eq_true rfl⟩ (fun q7 => ?_)
  refine Y_ws (ws' := (h, .inr (6, [.int 0, .int 0, .int 0, .null, .null, .null])) :: ([(q7, .inl (cI, 9, .inl (fun _ => 0)))])) rfl ?_
  refine Y_putF (pc := 9) dX6_init_9 f_RX6_9 rfl rfl rfl rfl rfl (Nat.le_of_ble_eq_true rfl) ?_
  refine Y_ws (ws' := (h, .inr (6, [.int 0, .int 0, .int 0, .ref q7, .null, .null])) :: ([(q7, .inl (cI, 9, .inl (fun _ => 0)))])) rfl ?_
  refine Y_aload_n (pc := 12) dX6_init_12 rfl rfl ?_
  refine Y_bipush (pc := 13) (v := nI 9) dX6_init_13 (by decide) ?_
  refine Y_newI (pc := 15) dX6_init_15 rfl (by decide) ⟨Nat.le_of_ble_eq_true rfl, Nat.le_of_ble_eq_true rfl⟩ (fun q15 => ?_)
  refine Y_ws (ws' := (h, .inr (6, [.int 0, .int 0, .int 0, .ref q7, .null, .null])) :: ([(q7, .inl (cI, 9, .inl (fun _ => 0)))] ++ [(q15, .inl (cI, 9, .inl (fun _ => 0)))])) rfl ?_
  refine Y_putF (pc := 17) dX6_init_17 f_RX6_15 rfl rfl rfl rfl rfl (Nat.le_of_ble_eq_true rfl) ?_
  refine Y_ws (ws' := (h, .inr (6, [.int 0, .int 0, .int 0, .ref q7, .ref q15, .null])) :: ([(q7, .inl (cI, 9, .inl (fun _ => 0)))] ++ [(q15, .inl (cI, 9, .inl (fun _ => 0)))])) rfl ?_
  refine Y_aload_n (pc := 20) dX6_init_20 rfl rfl ?_
  refine Y_bipush (pc := 21) (v := nI 9) dX6_init_21 (by decide) ?_
  refine Y_newI (pc := 23) dX6_init_23 rfl (by decide) ⟨Nat.le_of_ble_eq_true rfl, Nat.le_of_ble_eq_true rfl⟩ (fun q23 => ?_)
  refine Y_ws (ws' := (h, .inr (6, [.int 0, .int 0, .int 0, .ref q7, .ref q15, .null])) :: ([(q7, .inl (cI, 9, .inl (fun _ => 0)))] ++ [(q15, .inl (cI, 9, .inl (fun _ => 0)))] ++ [(q23, .inl (cI, 9, .inl (fun _ => 0)))])) rfl ?_
  refine Y_putF (pc := 25) dX6_init_25 f_RX6_18 rfl rfl rfl rfl rfl (Nat.le_of_ble_eq_true rfl) ?_
  refine Y_ws (ws' := (h, .inr (6, [.int 0, .int 0, .int 0, .ref q7, .ref q15, .ref q23])) :: ([(q7, .inl (cI, 9, .inl (fun _ => 0)))] ++ [(q15, .inl (cI, 9, .inl (fun _ => 0)))] ++ [(q23, .inl (cI, 9, .inl (fun _ => 0)))])) rfl ?_
  refine Y_G (lay := layS) (ad := adL [h, q7, q15, q23]) (I := fun _ _ => 0) (J := fun _ _ => 0) (ls' := [.ref 0]) (st' := []) (B := fun ad _ _ _ => ad 0 = h) (List.Perm.refl _) (fun _ _ _ _ _ _ _ _ _ => rfl) (fun _ _ _ _ => rfl) rfl rfl ?_
  refine g_aload_n (pc := 28) dX6_init_28 rfl rfl ?_
  refine g_iconst (pc := 29) (v := nI 2) dX6_init_29 (by decide) ?_
  refine g_iconst (pc := 30) (v := nI 2) dX6_init_30 (by decide) ?_
  refine g_callV (pc := 31) (c_X6_become (s := 0) (n := fun _ => 0) (r0 := 2) (c := 2) ⟨rfl, rfl, rfl, rfl⟩ rfl) dX6_init_31 l_RX6_21 m_MX6_become n_MX6_become e_MX6_become rfl ⟨Nat.le_of_ble_eq_true rfl, Nat.le_of_ble_eq_true rfl⟩ ⟨Nat.le_of_ble_eq_true rfl, Nat.le_of_ble_eq_true rfl⟩ (show layS[0]? = _ from rfl) rfl rfl (Nat.le_of_ble_eq_true rfl) ?_
  rintro _ I1 _ ⟨rfl, ⟨hv, -⟩, rfl⟩
  exact G_vret (pc := 34) (Bad := fun ad => ad 0 = h) dX6_init_34 rfl (fun ad ha => ⟨ha, vS_n hv (fun k hk => zsize_s hk)⟩)
set_option maxHeartbeats 2000000 in
set_option maxRecDepth 20000 in
theorem l_X7_init {R : Room} {n k : Nat} {E : gE} {B : gB} {I : zI} (K : ∀ J : zJ, (∀ j, j < 9 → J 1 j = lN 1 ∧ J 2 j = lN 1) → G R n k E B layT MX7_init 70 [.ref 0, .int (nI 9)] [] I J) : ∀ (m i : Nat) (J : zJ), i + m = 9 → (∀ j, j < i → J 1 j = lN 1 ∧ J 2 j = lN 1) → G R n k E B layT MX7_init 44 [.ref 0, .int (nI i)] [] I J := by
  intro m
  induction m with
  | zero =>
    intro i J hm h1
    obtain rfl : i = 9 := (by omega)
    refine g_iload_n (pc := 44) dX7_init_44 rfl rfl ?_
    refine g_bipush (pc := 45) (v := nI 9) dX7_init_45 (by decide) ?_
    exact g_icmp_geN (pc := 47) (tgt := 70) (by with_reducible rfl) (by with_reducible rfl) dX7_init_47 (by decide) (by omega) (by omega) (fun hb => K J h1) (fun hb => absurd hb (by omega))
  | succ m ih =>
    intro i J hm h1
    refine g_iload_n (pc := 44) dX7_init_44 rfl rfl ?_
    refine g_bipush (pc := 45) (v := nI 9) dX7_init_45 (by decide) ?_
    refine g_icmp_geN (pc := 47) (tgt := 70) (by with_reducible rfl) (by with_reducible rfl) dX7_init_47 (by decide) (by omega) (by omega) (fun hb => absurd hb (by omega)) (fun hb => ?_)
    refine g_aload_n (pc := 50) dX7_init_50 rfl rfl ?_
    refine g_getR (pc := 51) dX7_init_51 f_RX7_9 (show layT[0]? = _ from rfl) rfl ?_
    refine g_iload_n (pc := 54) dX7_init_54 rfl rfl ?_
    refine g_lconst (pc := 55) (v := lN 1) dX7_init_55 rfl ?_
    refine g_lastore (pc := 56) dX7_init_56 (show layT[1]? = _ from rfl) rfl (by omega) (by decide) ?_
    refine g_aload_n (pc := 57) dX7_init_57 rfl rfl ?_
    refine g_getR (pc := 58) dX7_init_58 f_RX7_15 (show layT[0]? = _ from rfl) rfl ?_
    refine g_iload_n (pc := 61) dX7_init_61 rfl rfl ?_
    refine g_lconst (pc := 62) (v := lN 1) dX7_init_62 rfl ?_
    refine g_lastore (pc := 63) dX7_init_63 (show layT[2]? = _ from rfl) rfl (by omega) (by decide) ?_
    refine g_iincN (pc := 64) (c := 1) dX7_init_64 rfl (by with_reducible rfl) (by decide) (by decide) rfl ?_
    try dsimp only [zst1, zst2, zk]
    refine g_goto (pc := 67) (tgt := 44) dX7_init_67 (by decide) ?_
    refine ih (i + 1) _ (by omega) (fun j hj => ?_)
    by_cases e : j = i
    · rw [e]
      exact ⟨by rw [zup_n _ _ (by omega)]; exact zup_s _ _ _ _, zup_s _ _ _ _⟩
    · rw [zup_n _ _ (by omega), zup_n _ _ (by omega), zup_n _ _ (by omega), zup_n _ _ (by omega)]
      exact h1 j (by omega)
set_option maxHeartbeats 2000000 in
set_option maxRecDepth 20000 in
theorem c_X7_init : yMet layT MX7_init 2 4 22 (fun _ _ _ h => [(h, .inr (7, [.null, .null, .int 0, .null, .null]))]) [] (fun h ad I J => ad 0 = h ∧ vT I J 0 n0) := by
  refine yMet_of (t := MX7_init) (ls := fun h => [.ref h, .null]) (by decide +kernel) rfl (fun _ => Nat.le_of_ble_eq_true rfl) (fun _ => rfl) (fun dC dI cI cJ cR h => ?_)
  refine Y_aload_n (pc := 0) dX7_init_0 rfl rfl ?_
  refine Y_objInit (pc := 1) dX7_init_1 lo_RX7_3 (Nat.le_of_ble_eq_true rfl) (Nat.le_of_ble_eq_true rfl) ?_
  refine Y_aload_n (pc := 4) dX7_init_4 rfl rfl ?_
  refine Y_bipush (pc := 5) (v := nI 9) dX7_init_5 (by decide) ?_
  refine Y_newJ (pc := 7) dX7_init_7 rfl (by decide) ⟨Nat.le_of_ble_eq_true rfl, Nat.le_of_ble_eq_true rfl⟩ (fun q7 => ?_)
  refine Y_ws (ws' := (h, .inr (7, [.null, .null, .int 0, .null, .null])) :: ([(q7, .inl (cJ, 9, .inr (.inl (fun _ => 0))))])) rfl ?_
  refine Y_putF (pc := 9) dX7_init_9 f_RX7_9 rfl rfl rfl rfl rfl (Nat.le_of_ble_eq_true rfl) ?_
  refine Y_ws (ws' := (h, .inr (7, [.ref q7, .null, .int 0, .null, .null])) :: ([(q7, .inl (cJ, 9, .inr (.inl (fun _ => 0))))])) rfl ?_
  refine Y_aload_n (pc := 12) dX7_init_12 rfl rfl ?_
  refine Y_bipush (pc := 13) (v := nI 9) dX7_init_13 (by decide) ?_
  refine Y_newJ (pc := 15) dX7_init_15 rfl (by decide) ⟨Nat.le_of_ble_eq_true rfl, Nat.le_of_ble_eq_true rfl⟩ (fun q15 => ?_)
  refine Y_ws (ws' := (h, .inr (7, [.ref q7, .null, .int 0, .null, .null])) :: ([(q7, .inl (cJ, 9, .inr (.inl (fun _ => 0))))] ++ [(q15, .inl (cJ, 9, .inr (.inl (fun _ => 0))))])) rfl ?_
  refine Y_putF (pc := 17) dX7_init_17 f_RX7_15 rfl rfl rfl rfl rfl (Nat.le_of_ble_eq_true rfl) ?_
  refine Y_ws (ws' := (h, .inr (7, [.ref q7, .ref q15, .int 0, .null, .null])) :: ([(q7, .inl (cJ, 9, .inr (.inl (fun _ => 0))))] ++ [(q15, .inl (cJ, 9, .inr (.inl (fun _ => 0))))])) rfl ?_
  refine Y_aload_n (pc := 20) dX7_init_20 rfl rfl ?_
  refine Y_new (pc := 21) (fs := [.long 0, .long 0]) dX7_init_21 zc0 lk_RX7_18 li_RX0 i_RX0 (fun j hj => by rcases (show j = 0 ∨ j = 1 by omega) with rfl | rfl <;> rfl) ⟨Nat.le_of_ble_eq_true rfl, Nat.le_of_ble_eq_true rfl⟩ (fun q21 => ?_)
  refine Y_dup (pc := 24) dX7_init_24 rfl ?_
  refine Y_ctor (pc := 25) (np := 0) (w0 := (h, .inr (7, [.ref q7, .ref q15, .int 0, .null, .null])) :: ([(q7, .inl (cJ, 9, .inr (.inl (fun _ => 0))))] ++ [(q15, .inl (cJ, 9, .inr (.inl (fun _ => 0))))])) (As := []) (b := q21) c_X0_init dX7_init_25 l_RX7_20 mi_X0 n_MX0_init rfl rfl rfl ⟨Nat.le_of_ble_eq_true rfl, Nat.le_of_ble_eq_true rfl⟩ ⟨Nat.le_of_ble_eq_true rfl, Nat.le_of_ble_eq_true rfl⟩ rfl (Nat.le_of_ble_eq_true rfl) rfl (fun ad21 I21 J21 e21 => ?_)
  obtain ⟨rfl, e21⟩ := e21
  refine Y_ws (ws' := (h, .inr (7, [.ref q7, .ref q15, .int 0, .null, .null])) :: ([(q7, .inl (cJ, 9, .inr (.inl (fun _ => 0))))] ++ [(q15, .inl (cJ, 9, .inr (.inl (fun _ => 0))))] ++ zW cI cJ cR ad21 layF I21 J21)) rfl ?_
  refine Y_putF (pc := 28) dX7_init_28 f_RX7_21 rfl rfl rfl rfl rfl (Nat.le_of_ble_eq_true rfl) ?_
  refine Y_ws (ws' := (h, .inr (7, [.ref q7, .ref q15, .int 0, .ref (ad21 0), .null])) :: ([(q7, .inl (cJ, 9, .inr (.inl (fun _ => 0))))] ++ [(q15, .inl (cJ, 9, .inr (.inl (fun _ => 0))))] ++ zW cI cJ cR ad21 layF I21 J21)) rfl ?_
  refine Y_aload_n (pc := 31) dX7_init_31 rfl rfl ?_
  refine Y_new (pc := 32) (fs := [.long 0, .long 0]) dX7_init_32 zc0 lk_RX7_18 li_RX0 i_RX0 (fun j hj => by rcases (show j = 0 ∨ j = 1 by omega) with rfl | rfl <;> rfl) ⟨Nat.le_of_ble_eq_true rfl, Nat.le_of_ble_eq_true rfl⟩ (fun q32 => ?_)
  refine Y_dup (pc := 35) dX7_init_35 rfl ?_
  refine Y_ctor (pc := 36) (np := 0) (w0 := (h, .inr (7, [.ref q7, .ref q15, .int 0, .ref (ad21 0), .null])) :: ([(q7, .inl (cJ, 9, .inr (.inl (fun _ => 0))))] ++ [(q15, .inl (cJ, 9, .inr (.inl (fun _ => 0))))] ++ zW cI cJ cR ad21 layF I21 J21)) (As := []) (b := q32) c_X0_init dX7_init_36 l_RX7_20 mi_X0 n_MX0_init rfl rfl rfl ⟨Nat.le_of_ble_eq_true rfl, Nat.le_of_ble_eq_true rfl⟩ ⟨Nat.le_of_ble_eq_true rfl, Nat.le_of_ble_eq_true rfl⟩ rfl (Nat.le_of_ble_eq_true rfl) rfl (fun ad32 I32 J32 e32 => ?_)
  obtain ⟨rfl, e32⟩ := e32
  refine Y_ws (ws' := (h, .inr (7, [.ref q7, .ref q15, .int 0, .ref (ad21 0), .null])) :: ([(q7, .inl (cJ, 9, .inr (.inl (fun _ => 0))))] ++ [(q15, .inl (cJ, 9, .inr (.inl (fun _ => 0))))] ++ zW cI cJ cR ad21 layF I21 J21 ++ zW cI cJ cR ad32 layF I32 J32)) rfl ?_
  refine Y_putF (pc := 39) dX7_init_39 f_RX7_25 rfl rfl rfl rfl rfl (Nat.le_of_ble_eq_true rfl) ?_
  refine Y_ws (ws' := (h, .inr (7, [.ref q7, .ref q15, .int 0, .ref (ad21 0), .ref (ad32 0)])) :: ([(q7, .inl (cJ, 9, .inr (.inl (fun _ => 0))))] ++ [(q15, .inl (cJ, 9, .inr (.inl (fun _ => 0))))] ++ zW cI cJ cR ad21 layF I21 J21 ++ zW cI cJ cR ad32 layF I32 J32)) rfl ?_
  have hw : (h, .inr (7, [.ref q7, .ref q15, .int 0, .ref (ad21 0), .ref (ad32 0)])) :: ([(q7, .inl (cJ, 9, .inr (.inl (fun _ => 0))))] ++ [(q15, .inl (cJ, 9, .inr (.inl (fun _ => 0))))] ++ zW cI cJ cR ad21 layF I21 J21 ++ zW cI cJ cR ad32 layF I32 J32) = zW cI cJ cR (zj 3 1 ad21 (zj 4 1 ad32 (adL [h, q7, q15]))) layT (zj 3 1 I21 (zj 4 1 I32 (fun _ _ => 0))) (zj 3 1 J21 (zj 4 1 J32 (fun _ _ => 0))) := by
    exact (zWo_blk (b := 4) (ad1 := ad32) (l1 := layF) (l2 := layF.map (zsh 4)) (I1 := I32) (J1 := J32) (zWo_blk (b := 3) (ad1 := ad21) (l1 := layF) (l2 := layF.map (zsh 3)) (I1 := I21) (J1 := J21) (show ([(h, .inr (7, [.ref q7, .ref q15, .int 0, .ref (ad21 0), .ref (ad32 0)])), (q7, .inl (cJ, 9, .inr (.inl (fun _ => 0)))), (q15, .inl (cJ, 9, .inr (.inl (fun _ => 0))))] : va_W) = zWo 0 cI cJ cR (zj 3 1 ad21 (zj 4 1 ad32 (adL [h, q7, q15]))) _ (zj 3 1 I21 (zj 4 1 I32 (fun _ _ => 0))) (zj 3 1 J21 (zj 4 1 J32 (fun _ _ => 0))) from (rfl : _ = zWo 0 cI cJ cR (zj 3 1 ad21 (zj 4 1 ad32 (adL [h, q7, q15]))) [.inl (7, [3, 4, 0, 5, 6]), .inr (.inr (.inl 9)), .inr (.inr (.inl 9))] (zj 3 1 I21 (zj 4 1 I32 (fun _ _ => 0))) (zj 3 1 J21 (zj 4 1 J32 (fun _ _ => 0))))) rfl rfl (by decide) (fun x hx => by have hx : x < 1 := hx; rw [zj_i hx]) (fun x hx => by have hx : x < 1 := hx; rw [zj_i hx]) (fun x hx => by have hx : x < 1 := hx; rw [zj_i hx])) rfl rfl (by decide) (fun x hx => by have hx : x < 1 := hx; rw [zj_o (by omega), zj_i hx]) (fun x hx => by have hx : x < 1 := hx; rw [zj_o (by omega), zj_i hx]) (fun x hx => by have hx : x < 1 := hx; rw [zj_o (by omega), zj_i hx])).trans (zWo_0 (lay := layT)).symm
  refine Y_G (lay := layT) (ad := (zj 3 1 ad21 (zj 4 1 ad32 (adL [h, q7, q15])))) (I := (zj 3 1 I21 (zj 4 1 I32 (fun _ _ => 0)))) (J := (zj 3 1 J21 (zj 4 1 J32 (fun _ _ => 0)))) (ls' := [.ref 0, .null]) (st' := []) (B := fun ad _ _ _ => ad 0 = h) (List.Perm.of_eq hw) (fun _ _ _ _ _ _ _ _ _ => rfl) (fun _ _ _ _ => rfl) rfl rfl ?_
  refine g_iconst (pc := 42) (v := nI 0) dX7_init_42 (by decide) ?_
  refine g_istore_n (pc := 43) dX7_init_43 rfl (by decide) rfl ?_
  try dsimp only [zst1, zst2, zk]
  exact l_X7_init (fun J1 hJ => G_vret (pc := 70) (Bad := fun ad => ad 0 = h) dX7_init_70 rfl (fun ad ha => ⟨ha, fun k hk => by rw [(hJ k hk).1]; unfold n0 zsize; rw [if_neg (by omega), if_pos (by omega)], fun k hk => by rw [(hJ k hk).2]; unfold n0 zsize; rw [if_neg (by omega), if_pos (by omega)], rfl⟩)) 9 0 _ rfl (fun j hj => absurd hj (by omega))
