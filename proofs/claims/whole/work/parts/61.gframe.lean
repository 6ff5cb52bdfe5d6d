/-! ===== the frame again, where cells are made: its room, its end, and what stands throughout, are given ===== -/
abbrev gE : Type := (Nat → ClassId) → (Nat → Nat → Nat) → ClassId → ClassId → ClassId → (Nat → Nat) → (Nat → Prop) → List Frame → Array Value → State → State → Prop
abbrev gB : Type := (Nat → Nat) → (Nat → Prop) → Array Value → State → Prop
def G (R : Room) (n k : Nat) (E : gE) (B : gB) (lay : List zL) (t : zM) (pc : Nat) (ls st : List Value) (I : zI) (J : zJ) : Prop :=
  ∀ (l : Launch) (dC : Nat → ClassId) (dI : Nat → Nat → Nat) (cI cJ cR : ClassId) (ad : Nat → Nat) (p : Program) (e : Env) (s : State) (m : MethodId) (args : Array Value) (below : List Frame) (meth : Method) (c : Code) (A : Nat → Prop) (H : Heap) (locs : List Loc) (lsr : Array Slot),
    B ad A args s → zCtx p s m args meth c t → zK dC dI cI cJ cR s → (∀ q : Nat, s.heap.size ≤ q → A q) → va_P (dC, dI) zcls (zW cI cJ cR ad lay I J) H → va_D A (zW cI cJ cR ad lay I J) → va_S A s.heap H locs → zlv ad t.2.2.1 ls lsr →
    W p l e R s m args below meth c H locs n k (E dC dI cI cJ cR ad A below args s) (F0 m pc lsr (st.map (zrf ad)))
section GR
variable {R : Room} {n0 k0' : Nat} {E : gE} {B : gB} {lay : List zL} {t : zM} {pc : Nat} {ls st : List Value} {I : zI} {J : zJ}
theorem g_iconst {n : Int} {v : Int32} (hd : decode t.2.1 pc = .ok (.iconst n, 1)) (hv : Int32.ofInt n = v) (k : G R n0 k0' E B lay t (pc + 1) ls (.int v :: st) I J) : G R n0 k0' E B lay t pc ls st I J :=
  fun l dC dI cI cJ cR ad p e s m args below meth c A H locs lsr X C K hA P D S L => lv_iconst C.1 C.2.1 hd hv (k l dC dI cI cJ cR ad p e s m args below meth c A H locs lsr X C K hA P D S L)
theorem g_bipush {n : Int} {v : Int32} (hd : decode t.2.1 pc = .ok (.bipush n, 2)) (hv : (Int8.ofInt n).toInt32 = v) (k : G R n0 k0' E B lay t (pc + 2) ls (.int v :: st) I J) : G R n0 k0' E B lay t pc ls st I J :=
  fun l dC dI cI cJ cR ad p e s m args below meth c A H locs lsr X C K hA P D S L => lv_bipush C.1 C.2.1 hd hv (k l dC dI cI cJ cR ad p e s m args below meth c A H locs lsr X C K hA P D S L)
theorem g_lconst {n : Fin 2} {v : Int64} (hd : decode t.2.1 pc = .ok (.lconst n, 1)) (hv : Int64.ofNat (n : Nat) = v) (k : G R n0 k0' E B lay t (pc + 1) ls (.long v :: st) I J) : G R n0 k0' E B lay t pc ls st I J :=
  fun l dC dI cI cJ cR ad p e s m args below meth c A H locs lsr X C K hA P D S L => lv_lconst C.1 C.2.1 hd hv (k l dC dI cI cJ cR ad p e s m args below meth c A H locs lsr X C K hA P D S L)
theorem g_ldc2 {index : Nat} {v : Int64} (hd : decode t.2.1 pc = .ok (.ldc2_w index, 3)) (hw : Cond.constantLong t.1.cls index v ∈ zTb) (k : G R n0 k0' E B lay t (pc + 3) ls (.long v :: st) I J) : G R n0 k0' E B lay t pc ls st I J :=
  fun l dC dI cI cJ cR ad p e s m args below meth c A H locs lsr X C K hA P D S L => lv_ldc2 C.1 C.2.1 C.2.2.2.2.1 (C.2.2.2.2.2.1 _ hw) hd (k l dC dI cI cJ cR ad p e s m args below meth c A H locs lsr X C K hA P D S L)
theorem g_iload_n {n : Fin 4} {i : Nat} {x : Int32} (hd : decode t.2.1 pc = .ok (.iload_n n, 1)) (hi : (n : Nat) = i) (hl : ls[i]? = some (.int x)) (k : G R n0 k0' E B lay t (pc + 1) ls (.int x :: st) I J) : G R n0 k0' E B lay t pc ls st I J :=
  fun l dC dI cI cJ cR ad p e s m args below meth c A H locs lsr X C K hA P D S L => lv_iload_n C.1 C.2.1 hd hi (L.at hl (fun h => by cases h)) (k l dC dI cI cJ cR ad p e s m args below meth c A H locs lsr X C K hA P D S L)
theorem g_aload_n {n : Fin 4} {i : Nat} {x : Nat} (hd : decode t.2.1 pc = .ok (.aload_n n, 1)) (hi : (n : Nat) = i) (hl : ls[i]? = some (.ref x)) (k : G R n0 k0' E B lay t (pc + 1) ls (.ref x :: st) I J) : G R n0 k0' E B lay t pc ls st I J :=
  fun l dC dI cI cJ cR ad p e s m args below meth c A H locs lsr X C K hA P D S L => lv_aload_n C.1 C.2.1 hd hi (L.at hl (fun h => by cases h)) (k l dC dI cI cJ cR ad p e s m args below meth c A H locs lsr X C K hA P D S L)
theorem g_istore_n {n : Fin 4} {i : Nat} {x : Int32} {ls' : List Value} (hd : decode t.2.1 pc = .ok (.istore_n n, 1)) (hi : (n : Nat) = i) (hl : i < t.2.2.1) (hs : zst1 ls i (.int x) = ls') (k : G R n0 k0' E B lay t (pc + 1) ls' st I J) : G R n0 k0' E B lay t pc ls (.int x :: st) I J := by
  subst hs
  intro l dC dI cI cJ cR ad p e s m args below meth c A H locs lsr X C K hA P D S L
  obtain ⟨h1, lv, h2, h3⟩ := L
  exact lv_istore_n C.1 C.2.1 hd hi h2 hl rfl (fun ls' h => k l dC dI cI cJ cR ad p e s m args below meth c A H locs ls' X C K hA P D S (zlv.st1 h1 h3 h))
theorem g_iinc {i : Nat} {n : Int} {x v : Int32} {ls' : List Value} (hd : decode t.2.1 pc = .ok (.iinc i n, 3)) (hx : ls[i]? = some (.int x)) (hv : x + Int32.ofInt n = v) (hl : i < t.2.2.1) (hs : zst1 ls i (.int v) = ls') (k : G R n0 k0' E B lay t (pc + 3) ls' st I J) : G R n0 k0' E B lay t pc ls st I J := by
  subst hs
  intro l dC dI cI cJ cR ad p e s m args below meth c A H locs lsr X C K hA P D S L
  obtain ⟨h1, lv, h2, h3⟩ := L
  obtain ⟨j, hj⟩ := List.getElem?_of_mem (h3 i _ hx (fun h => by cases h))
  exact lv_iinc C.1 C.2.1 hd h2 hj hv hl rfl (fun ls' h => k l dC dI cI cJ cR ad p e s m args below meth c A H locs ls' X C K hA P D S (zlv.st1 (v := .int v) h1 h3 h))
theorem g_iadd {x y : Int32} (hd : decode t.2.1 pc = .ok (.iadd, 1)) (k : G R n0 k0' E B lay t (pc + 1) ls (.int (x + y) :: st) I J) : G R n0 k0' E B lay t pc ls (.int y :: .int x :: st) I J :=
  fun l dC dI cI cJ cR ad p e s m args below meth c A H locs lsr X C K hA P D S L => lv_iadd C.1 C.2.1 hd (k l dC dI cI cJ cR ad p e s m args below meth c A H locs lsr X C K hA P D S L)
theorem g_isub {x y : Int32} (hd : decode t.2.1 pc = .ok (.isub, 1)) (k : G R n0 k0' E B lay t (pc + 1) ls (.int (x - y) :: st) I J) : G R n0 k0' E B lay t pc ls (.int y :: .int x :: st) I J :=
  fun l dC dI cI cJ cR ad p e s m args below meth c A H locs lsr X C K hA P D S L => lv_isub C.1 C.2.1 hd (k l dC dI cI cJ cR ad p e s m args below meth c A H locs lsr X C K hA P D S L)
theorem g_iand {x y : Int32} (hd : decode t.2.1 pc = .ok (.iand, 1)) (k : G R n0 k0' E B lay t (pc + 1) ls (.int (x &&& y) :: st) I J) : G R n0 k0' E B lay t pc ls (.int y :: .int x :: st) I J :=
  fun l dC dI cI cJ cR ad p e s m args below meth c A H locs lsr X C K hA P D S L => lv_iand C.1 C.2.1 hd (k l dC dI cI cJ cR ad p e s m args below meth c A H locs lsr X C K hA P D S L)
theorem g_land {x y : Int64} (hd : decode t.2.1 pc = .ok (.land, 1)) (k : G R n0 k0' E B lay t (pc + 1) ls (.long (x &&& y) :: st) I J) : G R n0 k0' E B lay t pc ls (.long y :: .long x :: st) I J :=
  fun l dC dI cI cJ cR ad p e s m args below meth c A H locs lsr X C K hA P D S L => lv_land C.1 C.2.1 hd (k l dC dI cI cJ cR ad p e s m args below meth c A H locs lsr X C K hA P D S L)
theorem g_lor {x y : Int64} (hd : decode t.2.1 pc = .ok (.lor, 1)) (k : G R n0 k0' E B lay t (pc + 1) ls (.long (x ||| y) :: st) I J) : G R n0 k0' E B lay t pc ls (.long y :: .long x :: st) I J :=
  fun l dC dI cI cJ cR ad p e s m args below meth c A H locs lsr X C K hA P D S L => lv_lor C.1 C.2.1 hd (k l dC dI cI cJ cR ad p e s m args below meth c A H locs lsr X C K hA P D S L)
theorem g_i2l {x : Int32} {v : Int64} (hd : decode t.2.1 pc = .ok (.i2l, 1)) (hv : x.toInt64 = v) (k : G R n0 k0' E B lay t (pc + 1) ls (.long v :: st) I J) : G R n0 k0' E B lay t pc ls (.int x :: st) I J :=
  fun l dC dI cI cJ cR ad p e s m args below meth c A H locs lsr X C K hA P D S L => lv_i2l C.1 C.2.1 hd hv (k l dC dI cI cJ cR ad p e s m args below meth c A H locs lsr X C K hA P D S L)
theorem g_lcmp {x y : Int64} (hd : decode t.2.1 pc = .ok (.lcmp, 1)) (k : G R n0 k0' E B lay t (pc + 1) ls (.int (lg_cmp x y) :: st) I J) : G R n0 k0' E B lay t pc ls (.long y :: .long x :: st) I J :=
  fun l dC dI cI cJ cR ad p e s m args below meth c A H locs lsr X C K hA P D S L => W.lcmp C.1 C.2.1 hd (k l dC dI cI cJ cR ad p e s m args below meth c A H locs lsr X C K hA P D S L)
theorem g_pop {v : Value} (hd : decode t.2.1 pc = .ok (.pop, 1)) (hv : v.category = 1) (k : G R n0 k0' E B lay t (pc + 1) ls st I J) : G R n0 k0' E B lay t pc ls (v :: st) I J :=
  fun l dC dI cI cJ cR ad p e s m args below meth c A H locs lsr X C K hA P D S L => lv_pop C.1 C.2.1 hd (by rw [zrf_cat]; exact hv) (k l dC dI cI cJ cR ad p e s m args below meth c A H locs lsr X C K hA P D S L)
theorem g_if_eq {x : Int32} {off : Int} {tgt : Nat} (hd : decode t.2.1 pc = .ok (.ifCond .eq off, 3)) (ht : (pc : Int) + off = (tgt : Int)) (kt : x = 0 → G R n0 k0' E B lay t tgt ls st I J) (kf : ¬ x = 0 → G R n0 k0' E B lay t (pc + 3) ls st I J) : G R n0 k0' E B lay t pc ls (.int x :: st) I J :=
  fun l dC dI cI cJ cR ad p e s m args below meth c A H locs lsr X C K hA P D S L => lv_if_eq C.1 C.2.1 hd ht (fun h => kt h l dC dI cI cJ cR ad p e s m args below meth c A H locs lsr X C K hA P D S L) (fun h => kf h l dC dI cI cJ cR ad p e s m args below meth c A H locs lsr X C K hA P D S L)
theorem g_icmp_eq {x y : Int32} {off : Int} {tgt : Nat} (hd : decode t.2.1 pc = .ok (.if_icmp .eq off, 3)) (ht : (pc : Int) + off = (tgt : Int)) (kt : x = y → G R n0 k0' E B lay t tgt ls st I J) (kf : ¬ x = y → G R n0 k0' E B lay t (pc + 3) ls st I J) : G R n0 k0' E B lay t pc ls (.int y :: .int x :: st) I J :=
  fun l dC dI cI cJ cR ad p e s m args below meth c A H locs lsr X C K hA P D S L => lv_icmp_eq C.1 C.2.1 hd ht (fun h => kt h l dC dI cI cJ cR ad p e s m args below meth c A H locs lsr X C K hA P D S L) (fun h => kf h l dC dI cI cJ cR ad p e s m args below meth c A H locs lsr X C K hA P D S L)
theorem g_icmp_ge {x y : Int32} {off : Int} {tgt : Nat} (hd : decode t.2.1 pc = .ok (.if_icmp .ge off, 3)) (ht : (pc : Int) + off = (tgt : Int)) (kt : y ≤ x → G R n0 k0' E B lay t tgt ls st I J) (kf : ¬ y ≤ x → G R n0 k0' E B lay t (pc + 3) ls st I J) : G R n0 k0' E B lay t pc ls (.int y :: .int x :: st) I J :=
  fun l dC dI cI cJ cR ad p e s m args below meth c A H locs lsr X C K hA P D S L => lv_icmp_ge C.1 C.2.1 hd ht (fun h => kt h l dC dI cI cJ cR ad p e s m args below meth c A H locs lsr X C K hA P D S L) (fun h => kf h l dC dI cI cJ cR ad p e s m args below meth c A H locs lsr X C K hA P D S L)
theorem g_icmp_gt {x y : Int32} {off : Int} {tgt : Nat} (hd : decode t.2.1 pc = .ok (.if_icmp .gt off, 3)) (ht : (pc : Int) + off = (tgt : Int)) (kt : y < x → G R n0 k0' E B lay t tgt ls st I J) (kf : ¬ y < x → G R n0 k0' E B lay t (pc + 3) ls st I J) : G R n0 k0' E B lay t pc ls (.int y :: .int x :: st) I J :=
  fun l dC dI cI cJ cR ad p e s m args below meth c A H locs lsr X C K hA P D S L => lv_icmp_gt C.1 C.2.1 hd ht (fun h => kt h l dC dI cI cJ cR ad p e s m args below meth c A H locs lsr X C K hA P D S L) (fun h => kf h l dC dI cI cJ cR ad p e s m args below meth c A H locs lsr X C K hA P D S L)
theorem g_goto {off : Int} {tgt : Nat} (hd : decode t.2.1 pc = .ok (.goto off, 3)) (ht : (pc : Int) + off = (tgt : Int)) (k : G R n0 k0' E B lay t tgt ls st I J) : G R n0 k0' E B lay t pc ls st I J :=
  fun l dC dI cI cJ cR ad p e s m args below meth c A H locs lsr X C K hA P D S L => lv_goto C.1 C.2.1 hd ht (k l dC dI cI cJ cR ad p e s m args below meth c A H locs lsr X C K hA P D S L)
theorem g_tableOut {dflt lo hi : Int} {offs : Array Int} {len : Nat} {x : Int32} {tgt : Nat} (hd : decode t.2.1 pc = .ok (.tableswitch dflt lo hi offs, len)) (h : x.toInt < lo ∨ hi < x.toInt) (ht : (pc : Int) + dflt = (tgt : Int)) (k : G R n0 k0' E B lay t tgt ls st I J) : G R n0 k0' E B lay t pc ls (.int x :: st) I J :=
  fun l dC dI cI cJ cR ad p e s m args below meth c A H locs lsr X C K hA P D S L => lv_tableOut C.1 C.2.1 hd h ht (k l dC dI cI cJ cR ad p e s m args below meth c A H locs lsr X C K hA P D S L)
theorem g_tableIn {dflt lo hi : Int} {offs : Array Int} {len : Nat} {x : Int32} {off : Int} {tgt : Nat} (hd : decode t.2.1 pc = .ok (.tableswitch dflt lo hi offs, len)) (h1 : ¬ x.toInt < lo) (h2 : ¬ hi < x.toInt) (ho : offs[(x.toInt - lo).toNat]? = some off) (ht : (pc : Int) + off = (tgt : Int)) (k : G R n0 k0' E B lay t tgt ls st I J) : G R n0 k0' E B lay t pc ls (.int x :: st) I J :=
  fun l dC dI cI cJ cR ad p e s m args below meth c A H locs lsr X C K hA P D S L => lv_tableIn C.1 C.2.1 hd h1 h2 ho ht (k l dC dI cI cJ cR ad p e s m args below meth c A H locs lsr X C K hA P D S L)
theorem g_getR {idx ci k0 a b : Nat} {ty : FieldType} {fin : Bool} {fl : List Nat} (hd : decode t.2.1 pc = .ok (.getfield idx, 3)) (hF : zFld t.1.cls idx ci k0 ty fin) (hl : lay[a]? = some (.inl (ci, fl))) (hf0 : fl[k0]? = some (b + 2)) (k : G R n0 k0' E B lay t (pc + 3) ls (.ref b :: st) I J) : G R n0 k0' E B lay t pc ls (.ref a :: st) I J := by
  intro l dC dI cI cJ cR ad p e s m args below meth c A H locs lsr X C K hA P D S L
  obtain ⟨C', T, N, tys, ⟨hcl, hin, hty, hnm⟩, hk, hlk, ht, hf⟩ := hF
  exact va_get (D := (dC, dI)) (ci := ci) (v := zrf ad (.ref b)) C.1 C.2.1 C.2.2.2.2.2.1 hin C.2.2.2.2.1 K.1 P a (zW_get hl) hcl k0 hk (C.2.2.2.2.2.1 _ hlk) (fun _ h => h) (by rw [List.getElem?_mapIdx, hf0]; rfl) hd (k l dC dI cI cJ cR ad p e s m args below meth c A H locs lsr X C K hA P D S L)
theorem g_iastore {a n N : Nat} {i x : Int32} (hd : decode t.2.1 pc = .ok (.iastore, 1)) (hl : lay[a]? = some (.inr (.inl N))) (hi : i = nI n) (hn : n < N) (hN : N < 2147483648) (k : G R n0 k0' E B lay t (pc + 1) ls st (zup I a n x) J) : G R n0 k0' E B lay t pc ls (.int x :: .int i :: .ref a :: st) I J := by
  intro l dC dI cI cJ cR ad p e' s m args below meth c A H locs lsr X C K hA P D S L
  subst hi
  refine va_iast C.1 C.2.1 K.1 P D S a 0 (zW_get hl) rfl (vp_in_nI hn hN) hd (fun H1 locs1 P1 D1 S1 => ?_)
  have e := zW_set (cI := cI) (cJ := cJ) (cR := cR) (ad := ad) (I := I) (I' := zup I a n x) (J := J) (J' := J) (e := .inl (cI, N, .inl (upd (I a) (nI n).toNatClampNeg x))) hl (by
    rw [nI_clamp (Nat.lt_trans hn hN)]
    show (Sum.inl (cI, N, .inl (zup I a n x a)) : va_E) = _
    congr 4
    funext j
    simp [zup, upd]) (fun b d h => zcell_oI b d h)
  have P2 : va_P (dC, dI) zcls (zW cI cJ cR ad lay (zup I a n x) J) H1 := by rw [← e]; exact P1
  exact k l dC dI cI cJ cR ad p e' s m args below meth c A H1 locs1 lsr X C K hA P2 (zW_D D) S1 L
theorem g_lastore {a n N : Nat} {i : Int32} {x : Int64} (hd : decode t.2.1 pc = .ok (.lastore, 1)) (hl : lay[a]? = some (.inr (.inr (.inl N)))) (hi : i = nI n) (hn : n < N) (hN : N < 2147483648) (k : G R n0 k0' E B lay t (pc + 1) ls st I (zup J a n x)) : G R n0 k0' E B lay t pc ls (.long x :: .int i :: .ref a :: st) I J := by
  intro l dC dI cI cJ cR ad p e' s m args below meth c A H locs lsr X C K hA P D S L
  subst hi
  refine va_last C.1 C.2.1 K.1 P D S a 1 (zW_get hl) rfl (vp_in_nI hn hN) hd (fun H1 locs1 P1 D1 S1 => ?_)
  have e := zW_set (cI := cI) (cJ := cJ) (cR := cR) (ad := ad) (I := I) (I' := I) (J := J) (J' := zup J a n x) (e := .inl (cJ, N, .inr (.inl (vp_updL (J a) (nI n).toNatClampNeg x)))) hl (by
    rw [nI_clamp (Nat.lt_trans hn hN)]
    show (Sum.inl (cJ, N, .inr (.inl (zup J a n x a))) : va_E) = _
    congr 5
    funext j
    simp [zup, vp_updL]) (fun b d h => zcell_oJ b d h)
  have P2 : va_P (dC, dI) zcls (zW cI cJ cR ad lay I (zup J a n x)) H1 := by rw [← e]; exact P1
  exact k l dC dI cI cJ cR ad p e' s m args below meth c A H1 locs1 lsr X C K hA P2 (zW_D D) S1 L
theorem g_iincN {i c a : Nat} {n : Int} {ls' : List Value} (hd : decode t.2.1 pc = .ok (.iinc i n, 3)) {x : Int32} (hx : ls[i]? = some (.int x)) (hxa : x = nI a) (hc : Int32.ofInt n = nI c) (hl : i < t.2.2.1) (hs : zst1 ls i (.int (nI (a + c))) = ls') (k : G R n0 k0' E B lay t (pc + 3) ls' st I J) : G R n0 k0' E B lay t pc ls st I J := g_iinc hd hx (by rw [hxa, hc, nI_add]) hl hs k
theorem g_icmp_geN {a b : Nat} {x y : Int32} {off : Int} {tgt : Nat} (hx : x = nI a) (hy : y = nI b) (hd : decode t.2.1 pc = .ok (.if_icmp .ge off, 3)) (ht : (pc : Int) + off = (tgt : Int)) (ha : a < 2147483648) (hb : b < 2147483648) (kt : b ≤ a → G R n0 k0' E B lay t tgt ls st I J) (kf : ¬ b ≤ a → G R n0 k0' E B lay t (pc + 3) ls st I J) : G R n0 k0' E B lay t pc ls (.int y :: .int x :: st) I J := by
  subst hx
  subst hy
  exact g_icmp_ge hd ht (fun h => kt ((nI_leI hb ha).mp h)) (fun h => kf (fun q => h ((nI_leI hb ha).mpr q)))
theorem g_lshl {x : Int64} {y : Int32} {v : Int64} (hd : decode t.2.1 pc = .ok (.lshl, 1)) (hv : x <<< (y.toInt64 &&& 63) = v) (k : G R n0 k0' E B lay t (pc + 1) ls (.long v :: st) I J) : G R n0 k0' E B lay t pc ls (.int y :: .long x :: st) I J :=
  fun l dC dI cI cJ cR ad p e s m args below meth c A H locs lsr X C K hA P D S L => lv_lshl C.1 C.2.1 hd hv (k l dC dI cI cJ cR ad p e s m args below meth c A H locs lsr X C K hA P D S L)
theorem g_callV {t' : zM} {d' n idx a ci : Nat} {fl : List Nat} {T : u_T} {N : Nat} {As rest : List Value} {Q' : Value → zI → zJ → Prop} (hM : zMet lay t' d' (.ref a :: As) I J Q') (hd : decode t.2.1 pc = .ok (.invokevirtual idx, 3)) (hlk : Cond.methodLink t.1.cls idx t'.1 ∈ zTb) (hm : zMth t' n) (hi : Cond.instanceMethod t'.1 ∈ zTb) (he : Cond.selects t'.1.cls t'.1 t'.1 ∈ zTb) (hn : As.length = n) (hdd : d' + 1 ≤ R.frames ∧ 60 + 60 * d' ≤ R.locals) (hnk : n0 ≤ R.cells ∧ k0' ≤ R.slots) (hla : lay[a]? = some (.inl (ci, fl))) (hci : zcls[ci]? = some (t'.1.cls, T, N)) (hst : st = As.reverse ++ .ref a :: rest) (hr : (rest.map fun v => v.category).sum ≤ 8)
    (kk : ∀ (r : Value) (I' : zI) (J' : zJ), Q' r I' J' → G R n0 k0' E B lay t (pc + 3) ls ((zov r).toList ++ rest) I' J') : G R n0 k0' E B lay t pc ls st I J := by
  subst hst
  intro l dC dI cI cJ cR ad p e' s m args below meth c A H locs lsr X C K hA P D S L
  obtain ⟨hm1, hm2, hm3, hm4⟩ := hm
  have hts := C.2.2.2.2.2.1
  have cw : CallW R s args t.1.cls t'.1.cls idx t'.1 t'.2.1 t'.2.2.1 t'.2.2.2 (zws t') (zroom d') 0 0 n := ⟨callB_of n hts (zws_good hm1) rfl rfl rfl (hts _ hm2) (hts _ hlk) hm3 ⟨hdd.1, by show 8 + (t'.2.2.1 + 11) + 60 * d' ≤ R.locals; have := hdd.2; omega⟩, hts _ hi, hts _ he⟩
  have hfr := zW_free D S hA
  refine va_callz (dC := dC) (dI := dI) (cI := cI) (cJ := cJ) (cR := cR) (ad := ad) (lay := lay) (va_runV (As := As.map (zrf ad)) (rest := rest.map (zrf ad)) (C := t'.1.cls) (b := ad a) ⟨C.1, C.2.1, C.2.2.1, C.2.2.2.2.1, hts⟩ (hM l dC dI cI cJ cR ad H.size) cw ⟨?_, ?_, ?_⟩ rfl (by rw [List.length_map]; exact hn) (by obtain ⟨h1, lv, h2, h3⟩ := L; exact h2.1) (by simp [List.map_append, List.map_reverse, zrf]) (lv_room (by rw [zrf_cats]; exact hr)) hd hnk) S (fun q _ h => hfr q h) hfr (fun r I' J' H1 locs1 hQ hP1 hS1 => ?_)
  · intro a U g mk q
    obtain ⟨q0, q1, q2, q3, q4⟩ := q
    exact ⟨q0, q1, q2, q3.blind, q4⟩
  · exact va_recv K.1 P hci (zW_get hla)
  · intro U hU hW
    refine ⟨rfl, by rw [hU], by rw [hU]; exact P, K.moved hW, D.weaken (fun _ _ _ _ => trivial)⟩
  · have k := kk r I' J' hQ l dC dI cI cJ cR ad p e' s m args below meth c A H1 locs1 lsr X C K hA hP1 (zW_D D) hS1 L
    rw [zov_map] at k
    exact k
end GR
