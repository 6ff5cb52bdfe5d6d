/-! ===== the frame of what makes: the world is told cell by cell ===== -/
def zAOv (V : State) : Bool := (((V.vm.findClass (FieldType.array FieldType.long).toString).bind fun comp => (V.vm.classes.findIdx? fun (x : Class) => match x.kind with | .array component _ => component == comp | _ => false).bind fun c => (V.vm.classes[c]?).map fun (k : Class) => match k.kind with
      | .array _ ty => decide (ty = FieldType.array FieldType.long) && decide (V.vm.findClass ("[" ++ (FieldType.array FieldType.long).toString) = some c)
      | _ => false)) == some true
theorem zAOv_eq (a : Array Value) (V : State) : (Cond.arrayOver (.array .long)).before a V = zAOv V := rfl
theorem zAO_alike {s U : State} (hal : s.vm.Alike U.vm) (h : zAOv s = true) : zAOv U = true := by
  unfold zAOv at h ⊢
  rw [hal.findClass]
  cases hf : s.vm.findClass (FieldType.array FieldType.long).toString with
  | none => rw [hf] at h; simp at h
  | some comp =>
    rw [hf] at h
    simp only [Option.bind_some] at h ⊢
    rw [hal.findIdx_congr _ (fun _ _ _ _ => rfl)]
    generalize hF : (s.vm.classes.findIdx? fun (x : Class) => match x.kind with | .array component _ => component == comp | _ => false) = fi at h ⊢
    cases fi with
    | none => simp at h
    | some c =>
      simp only [Option.bind_some] at h ⊢
      cases hk : s.vm.classes[c]? with
      | none => rw [hk] at h; simp at h
      | some k =>
        obtain ⟨k', hk', ek⟩ := hal.2.2 _ _ hk
        rw [hk] at h
        rw [hk', hal.findClass]
        have ekind : k'.kind = k.kind := by rw [ek]
        simp only [Option.map_some] at h ⊢
        rw [ekind]
        exact h
def yK (dC : Nat → ClassId) (dI : Nat → Nat → Nat) (cI cJ cR : ClassId) (U : State) : Prop := zK dC dI cI cJ cR U ∧ zAOv U = true
theorem yK.moved {dC : Nat → ClassId} {dI : Nat → Nat → Nat} {cI cJ cR : ClassId} {u U : State} (h : yK dC dI cI cJ cR u) (hW : u.WarmedH U.vm) : yK dC dI cI cJ cR U := ⟨h.1.moved hW, zAO_alike hW.alike h.2⟩
theorem yK.blind {dC : Nat → ClassId} {dI : Nat → Nat → Nat} {cI cJ cR : ClassId} {U : State} {g : JFrame} {mk : MethodId} {a : Array Value} (h : yK dC dI cI cJ cR U) : yK dC dI cI cJ cR (U.calling g mk a) := ⟨h.1.blind, zAO_alike (s := U) (U := U.calling g mk a) (Vm.Alike.refl U.vm) h.2⟩
def yroom (d mc ms : Nat) : Room := { frames := d, cells := mc, slots := ms, locals := 60 * d }
/-- a constructor's end: its cells laid out -/
def yQo (dC : Nat → ClassId) (dI : Nat → Nat → Nat) (cI cJ cR : ClassId) (A : Nat → Prop) (lay : List zL) (Q : (Nat → Nat) → zI → zJ → Prop) : Array Value → State → Outcome → State → Prop := fun _ st oc t =>
  (∃ (ad : Nat → Nat) (I : zI) (J : zJ), oc = .returned none ∧ Q ad I J ∧ va_P (dC, dI) zcls (zW cI cJ cR ad lay I J) t.heap ∧ va_D A (zW cI cJ cR ad lay I J)) ∧ va_F A st t
abbrev yW : Type := ClassId → ClassId → ClassId → Nat → va_W
def yMet (lay : List zL) (t : zM) (d mc ms : Nat) (w : yW) (as : List Value) (Q : Nat → (Nat → Nat) → zI → zJ → Prop) : Prop :=
  ∀ (l : Launch) (dC : Nat → ClassId) (dI : Nat → Nat → Nat) (cI cJ cR : ClassId) (h sz : Nat),
    Met l t.1 (zws t) (yroom d mc ms) (va_Pc (.ref h :: as) (fun U => U.heap.size = sz ∧ va_P (dC, dI) zcls (w cI cJ cR h) U.heap ∧ yK dC dI cI cJ cR U ∧ va_D (fun _ => True) (w cI cJ cR h)))
      (yQo dC dI cI cJ cR (va_A (w cI cJ cR h) sz) lay (Q h)) mc ms (va_A (w cI cJ cR h) sz)
def yE (lay : List zL) (Q : (Nat → Nat) → zI → zJ → Prop) (mc ms : Nat) : gE := fun dC dI cI cJ cR _ A below args s => MQ below (yQo dC dI cI cJ cR A lay Q) args s mc ms A
def Y (dC : Nat → ClassId) (dI : Nat → Nat → Nat) (cI cJ cR : ClassId) (R : Room) (n k : Nat) (E : gE) (B0 : (Nat → Prop) → Array Value → State → Prop) (t : zM) (pc : Nat) (ls st : List Value) (ws : va_W) : Prop :=
  ∀ (l : Launch) (p : Program) (e : Env) (s : State) (m : MethodId) (args : Array Value) (below : List Frame) (meth : Method) (c : Code) (A : Nat → Prop) (H : Heap) (locs : List Loc) (lsr : Array Slot),
    B0 A args s → (t.1.name = "<init>" → meth.name = "<init>") → zCtx p s m args meth c t → yK dC dI cI cJ cR s → (∀ q : Nat, s.heap.size ≤ q → A q) → va_P (dC, dI) zcls ws H → va_D A ws → va_S A s.heap H locs → zlv id t.2.2.1 ls lsr →
    W p l e R s m args below meth c H locs n k (E dC dI cI cJ cR id A below args s) (F0 m pc lsr st)
theorem zrf0 (v : Value) : zrf id v = v := by cases v <;> rfl
theorem zrf0s (l : List Value) : l.map (zrf id) = l := by
  induction l with
  | nil => rfl
  | cons a r ih => rw [List.map_cons, ih, zrf0]
theorem zlv.at0 {nL : Nat} {ls : List Value} {lsr : Array Slot} (h : zlv id nL ls lsr) {i : Nat} {v : Value} (hi : ls[i]? = some v) (hv : v ≠ .null) : lsr[i]? = some (.val v) := by
  have := h.at hi hv
  rwa [zrf0] at this
theorem zlv.to {ad : Nat → Nat} {nL : Nat} {ls : List Value} {lsr : Array Slot} (h : zlv id nL (ls.map (zrf ad)) lsr) : zlv ad nL ls lsr := by
  obtain ⟨h1, lv, h2, h3⟩ := h
  refine ⟨by rw [List.length_map] at h1; exact h1, lv, h2, fun i v hi hv => ?_⟩
  have := h3 i (zrf ad v) (by rw [List.getElem?_map, hi]; rfl) (fun q => hv (by cases v <;> first | rfl | cases q))
  rwa [zrf0] at this
/-! worlds in another order -/
theorem va_P_perm {D : va_G} {cl : List vw_C} {w1 w2 : va_W} {H : Heap} (hp : w1.Perm w2) (h : va_P D cl w1 H) : va_P D cl w2 H := fun k q hq => by
  obtain ⟨i, hi⟩ := List.getElem?_of_mem (hp.mem_iff.mpr (List.mem_of_getElem? hq))
  exact h i q hi
theorem va_D_nd {A : Nat → Prop} {w : va_W} : va_D A w ↔ (w.map (fun q => q.1)).Nodup ∧ ∀ q ∈ w, A q.1 := by
  constructor
  · rintro ⟨h1, h2⟩
    refine ⟨?_, fun q hq => ?_⟩
    · rw [List.nodup_iff_pairwise_ne, List.pairwise_iff_getElem]
      intro i j hi hj hij e
      rw [List.length_map] at hi hj
      rw [List.getElem_map, List.getElem_map] at e
      have := h1 i j _ _ (List.getElem?_eq_getElem hi) (List.getElem?_eq_getElem hj) e
      omega
    · obtain ⟨i, hi⟩ := List.getElem?_of_mem hq
      exact h2 i q hi
  · rintro ⟨h1, h2⟩
    refine ⟨fun i j p q hi hj e => ?_, fun k q hk => h2 q (List.mem_of_getElem? hk)⟩
    rw [List.nodup_iff_pairwise_ne, List.pairwise_iff_getElem] at h1
    obtain ⟨li, ei⟩ := List.getElem?_eq_some_iff.mp hi
    obtain ⟨lj, ej⟩ := List.getElem?_eq_some_iff.mp hj
    rcases Nat.lt_trichotomy i j with q1 | q1 | q1
    · exact absurd (by rw [List.getElem_map, List.getElem_map, ei, ej]; exact e) (h1 i j (by rw [List.length_map]; exact li) (by rw [List.length_map]; exact lj) q1)
    · exact q1
    · exact absurd (by rw [List.getElem_map, List.getElem_map, ei, ej]; exact e.symm) (h1 j i (by rw [List.length_map]; exact lj) (by rw [List.length_map]; exact li) q1)
theorem va_D_perm {A : Nat → Prop} {w1 w2 : va_W} (hp : w1.Perm w2) (h : va_D A w1) : va_D A w2 := by
  obtain ⟨h1, h2⟩ := va_D_nd.mp h
  exact va_D_nd.mpr ⟨(hp.map _).nodup_iff.mp h1, fun q hq => h2 q (hp.mem_iff.mpr hq)⟩
section YR
variable {dC : Nat → ClassId} {dI : Nat → Nat → Nat} {cI cJ cR : ClassId} {R : Room} {n k : Nat} {E : gE} {B0 : (Nat → Prop) → Array Value → State → Prop} {t : zM} {pc : Nat} {ls st : List Value} {ws : va_W}
theorem Y_perm {ws' : va_W} (hp : ws.Perm ws') (kk : Y dC dI cI cJ cR R n k E B0 t pc ls st ws') : Y dC dI cI cJ cR R n k E B0 t pc ls st ws :=
  fun l p e s m args below meth c A H locs lsr X N C K hA P D S L => kk l p e s m args below meth c A H locs lsr X N C K hA (va_P_perm hp P) (va_D_perm hp D) S L
theorem Y_iconst {n0 : Int} {v : Int32} (hd : decode t.2.1 pc = .ok (.iconst n0, 1)) (hv : Int32.ofInt n0 = v) (kk : Y dC dI cI cJ cR R n k E B0 t (pc + 1) ls (.int v :: st) ws) : Y dC dI cI cJ cR R n k E B0 t pc ls st ws :=
  fun l p e s m args below meth c A H locs lsr X N C K hA P D S L => lv_iconst C.1 C.2.1 hd hv (kk l p e s m args below meth c A H locs lsr X N C K hA P D S L)
theorem Y_bipush {n0 : Int} {v : Int32} (hd : decode t.2.1 pc = .ok (.bipush n0, 2)) (hv : (Int8.ofInt n0).toInt32 = v) (kk : Y dC dI cI cJ cR R n k E B0 t (pc + 2) ls (.int v :: st) ws) : Y dC dI cI cJ cR R n k E B0 t pc ls st ws :=
  fun l p e s m args below meth c A H locs lsr X N C K hA P D S L => lv_bipush C.1 C.2.1 hd hv (kk l p e s m args below meth c A H locs lsr X N C K hA P D S L)
theorem Y_sipush {n0 : Int} {v : Int32} (hd : decode t.2.1 pc = .ok (.sipush n0, 3)) (hv : (Int16.ofInt n0).toInt32 = v) (kk : Y dC dI cI cJ cR R n k E B0 t (pc + 3) ls (.int v :: st) ws) : Y dC dI cI cJ cR R n k E B0 t pc ls st ws :=
  fun l p e s m args below meth c A H locs lsr X N C K hA P D S L => lv_sipush C.1 C.2.1 hd hv (kk l p e s m args below meth c A H locs lsr X N C K hA P D S L)
theorem Y_lconst {n0 : Fin 2} {v : Int64} (hd : decode t.2.1 pc = .ok (.lconst n0, 1)) (hv : Int64.ofNat (n0 : Nat) = v) (kk : Y dC dI cI cJ cR R n k E B0 t (pc + 1) ls (.long v :: st) ws) : Y dC dI cI cJ cR R n k E B0 t pc ls st ws :=
  fun l p e s m args below meth c A H locs lsr X N C K hA P D S L => lv_lconst C.1 C.2.1 hd hv (kk l p e s m args below meth c A H locs lsr X N C K hA P D S L)
theorem Y_iload_n {n0 : Fin 4} {i : Nat} {x : Int32} (hd : decode t.2.1 pc = .ok (.iload_n n0, 1)) (hi : (n0 : Nat) = i) (hl : ls[i]? = some (.int x)) (kk : Y dC dI cI cJ cR R n k E B0 t (pc + 1) ls (.int x :: st) ws) : Y dC dI cI cJ cR R n k E B0 t pc ls st ws :=
  fun l p e s m args below meth c A H locs lsr X N C K hA P D S L => lv_iload_n C.1 C.2.1 hd hi (L.at0 hl (fun h => by cases h)) (kk l p e s m args below meth c A H locs lsr X N C K hA P D S L)
theorem Y_aload_n {n0 : Fin 4} {i : Nat} {x : Nat} (hd : decode t.2.1 pc = .ok (.aload_n n0, 1)) (hi : (n0 : Nat) = i) (hl : ls[i]? = some (.ref x)) (kk : Y dC dI cI cJ cR R n k E B0 t (pc + 1) ls (.ref x :: st) ws) : Y dC dI cI cJ cR R n k E B0 t pc ls st ws :=
  fun l p e s m args below meth c A H locs lsr X N C K hA P D S L => lv_aload_n C.1 C.2.1 hd hi (L.at0 hl (fun h => by cases h)) (kk l p e s m args below meth c A H locs lsr X N C K hA P D S L)
theorem Y_dup {v : Value} (hd : decode t.2.1 pc = .ok (.dup, 1)) (hv : v.category = 1) (kk : Y dC dI cI cJ cR R n k E B0 t (pc + 1) ls (v :: v :: st) ws) : Y dC dI cI cJ cR R n k E B0 t pc ls (v :: st) ws :=
  fun l p e s m args below meth c A H locs lsr X N C K hA P D S L => lv_dup C.1 C.2.1 hd hv (kk l p e s m args below meth c A H locs lsr X N C K hA P D S L)
theorem Y_istore_n {n0 : Fin 4} {i : Nat} {x : Int32} {ls' : List Value} (hd : decode t.2.1 pc = .ok (.istore_n n0, 1)) (hi : (n0 : Nat) = i) (hl : i < t.2.2.1) (hs : zst1 ls i (.int x) = ls') (kk : Y dC dI cI cJ cR R n k E B0 t (pc + 1) ls' st ws) : Y dC dI cI cJ cR R n k E B0 t pc ls (.int x :: st) ws := by
  subst hs
  intro l p e s m args below meth c A H locs lsr X N C K hA P D S L
  obtain ⟨h1, lv, h2, h3⟩ := L
  exact lv_istore_n C.1 C.2.1 hd hi h2 hl rfl (fun ls' h => kk l p e s m args below meth c A H locs ls' X N C K hA P D S (zlv.st1 (v := .int x) h1 h3 h))
theorem Y_astore_n {n0 : Fin 4} {i : Nat} {x : Nat} {ls' : List Value} (hd : decode t.2.1 pc = .ok (.astore_n n0, 1)) (hi : (n0 : Nat) = i) (hl : i < t.2.2.1) (hs : zst1 ls i (.ref x) = ls') (kk : Y dC dI cI cJ cR R n k E B0 t (pc + 1) ls' st ws) : Y dC dI cI cJ cR R n k E B0 t pc ls (.ref x :: st) ws := by
  subst hs
  intro l p e s m args below meth c A H locs lsr X N C K hA P D S L
  obtain ⟨h1, lv, h2, h3⟩ := L
  exact lv_astore_n C.1 C.2.1 hd hi h2 hl rfl (fun ls' h => kk l p e s m args below meth c A H locs ls' X N C K hA P D S (zlv.st1 (v := .ref x) h1 h3 h))
theorem Y_objInit {idx a : Nat} (hd : decode t.2.1 pc = .ok (.invokespecial idx, 3)) (hlk : Cond.methodLink t.1.cls idx objectInit ∈ zTb) (hf : 1 ≤ R.frames) (hlo : (st.map fun v => v.category).sum + 12 ≤ R.locals) (kk : Y dC dI cI cJ cR R n k E B0 t (pc + 3) ls st ws) : Y dC dI cI cJ cR R n k E B0 t pc ls (.ref a :: st) ws := by
  intro l p e s m args below meth c A H locs lsr X N C K hA P D S L
  refine W.objInit C.1 C.2.1 C.2.2.2.2.1 (C.2.2.2.2.2.1 _ hlk) (C.2.2.2.2.2.1 _ zOi) (C.2.2.2.2.2.1 _ zOc) rfl ?_ rfl hd hf ?_ (kk l p e s m args below meth c A H locs lsr X N C K hA P D S L)
  · obtain ⟨h1, lv, h2, h3⟩ := L
    rw [C.2.2.1]
    exact h2.1
  · show 2 * 0 + _ + 12 ≤ _
    omega
theorem Y_new {idx ci N : Nat} {C0 : String} {T0 : u_T} {ty : Nat → FieldType} {fs : List Value} (hd : decode t.2.1 pc = .ok (.new idx, 3)) (hc : zCl ci C0 T0 N ty) (hlk : Cond.classLink t.1.cls idx C0 ∈ zTb) (hin : Cond.instantiable C0 N ∈ zTb) (hini : Cond.initialized C0 ∈ zTb) (hfs : ∀ j, j < N → defaultValue (ty j) = vp_V fs j) (hn : n + 1 ≤ R.cells ∧ k + N ≤ R.slots)
    (kk : ∀ q : Nat, Y dC dI cI cJ cR R (n + 1) (k + N) E B0 t (pc + 3) ls (.ref q :: st) (ws ++ [(q, .inr (ci, fs))])) : Y dC dI cI cJ cR R n k E B0 t pc ls st ws := by
  intro l p e s m args below meth c A H locs lsr X N C K hA P D S L
  obtain ⟨hcl, hw, hty, hnm⟩ := hc
  exact va_new C.1 C.2.1 C.2.2.2.2.2.1 hw ty hty C.2.2.2.2.1 (C.2.2.2.2.2.1 _ hlk) (C.2.2.2.2.2.1 _ hin) (C.2.2.2.2.2.1 _ hini) K.1.1 P D S hA hcl hfs hn.1 hn.2 hd (fun q H1 P1 D1 S1 => kk q l p e s m args below meth c A H1 locs lsr X N C K hA P1 D1 S1 L)
theorem Y_newI {x : Int32} {N' : Nat} (hd : decode t.2.1 pc = .ok (.newarray .int, 2)) (hx : x = nI N') (hN : N' ≤ 1000) (hn : n + 1 ≤ R.cells ∧ k + N' ≤ R.slots)
    (kk : ∀ q : Nat, Y dC dI cI cJ cR R (n + 1) (k + N') E B0 t (pc + 2) ls (.ref q :: st) (ws ++ [(q, .inl (cI, N', .inl (fun _ => 0)))])) : Y dC dI cI cJ cR R n k E B0 t pc ls (.int x :: st) ws := by
  subst hx
  intro l p e s m args below meth c A H locs lsr X N C K hA P D S L
  refine va_newa (atype := .int) (ty := .int) (a0 := (N', .inl (fun _ => 0))) C.1 C.2.1 (C.2.2.2.2.2.1 _ lr_int) rfl K.1.1 P D S hA (fun _ => rfl) (by have := nI_pos (n := N') (by omega); exact this) (nI_clamp (by omega)) (by show N' * 4 ≤ _; omega) hn.1 hn.2 hd (fun q cA H1 K1 P1 D1 S1 => ?_)
  have e1 := va_nm_int (K1.2 3 _ rfl).2
  have e2 := va_nm_int (K.1.1.2 0 _ rfl).2
  rw [e1] at e2
  cases e2
  exact kk q l p e s m args below meth c A H1 locs lsr X N C K hA P1 D1 S1 L
theorem Y_newJ {x : Int32} {N' : Nat} (hd : decode t.2.1 pc = .ok (.newarray .long, 2)) (hx : x = nI N') (hN : N' ≤ 1000) (hn : n + 1 ≤ R.cells ∧ k + N' ≤ R.slots)
    (kk : ∀ q : Nat, Y dC dI cI cJ cR R (n + 1) (k + N') E B0 t (pc + 2) ls (.ref q :: st) (ws ++ [(q, .inl (cJ, N', .inr (.inl (fun _ => 0))))])) : Y dC dI cI cJ cR R n k E B0 t pc ls (.int x :: st) ws := by
  subst hx
  intro l p e s m args below meth c A H locs lsr X N C K hA P D S L
  refine va_newa (atype := .long) (ty := .long) (a0 := (N', .inr (.inl (fun _ => 0)))) C.1 C.2.1 (C.2.2.2.2.2.1 _ lr_long) rfl K.1.1 P D S hA (fun _ => rfl) (by have := nI_pos (n := N') (by omega); exact this) (nI_clamp (by omega)) (by show N' * 8 ≤ _; omega) hn.1 hn.2 hd (fun q cA H1 K1 P1 D1 S1 => ?_)
  have e1 := va_nm_long (K1.2 3 _ rfl).2
  have e2 := va_nm_long (K.1.1.2 1 _ rfl).2
  rw [e1] at e2
  cases e2
  exact kk q l p e s m args below meth c A H1 locs lsr X N C K hA P1 D1 S1 L
theorem Y_getf {idx ci k0 h : Nat} {ty : FieldType} {fin : Bool} {fs : List Value} {v : Value} {tl : va_W} (hd : decode t.2.1 pc = .ok (.getfield idx, 3)) (hF : zFld t.1.cls idx ci k0 ty fin) (hv : fs[k0]? = some v) (kk : Y dC dI cI cJ cR R n k E B0 t (pc + 3) ls (v :: st) ((h, .inr (ci, fs)) :: tl)) : Y dC dI cI cJ cR R n k E B0 t pc ls (.ref h :: st) ((h, .inr (ci, fs)) :: tl) := by
  intro l p e s m args below meth c A H locs lsr X N C K hA P D S L
  obtain ⟨C', T, N', tys, ⟨hcl, hin, hty, hnm⟩, hk, hlk, ht, hf⟩ := hF
  exact va_get (D := (dC, dI)) (ci := ci) (v := v) C.1 C.2.1 C.2.2.2.2.2.1 hin C.2.2.2.2.1 K.1.1 P 0 rfl hcl k0 hk (C.2.2.2.2.2.1 _ hlk) (fun _ h => h) hv hd (kk l p e s m args below meth c A H locs lsr X N C K hA P D S L)
theorem Y_put {idx ci k0 h : Nat} {ty : FieldType} {fs : List Value} {v : Value} {tl : va_W} (hd : decode t.2.1 pc = .ok (.putfield idx, 3)) (hF : zFld t.1.cls idx ci k0 ty false) (hnr : narrow ty v = v) (hft : fits ty v = true) (hlt : k0 < fs.length) (kk : Y dC dI cI cJ cR R n k E B0 t (pc + 3) ls st ((h, .inr (ci, fs.set k0 v)) :: tl)) : Y dC dI cI cJ cR R n k E B0 t pc ls (v :: .ref h :: st) ((h, .inr (ci, fs)) :: tl) := by
  intro l p e s m args below meth c A H locs lsr X N C K hA P D S L
  obtain ⟨C', T, N', tys, ⟨hcl, hin, hty, hnm⟩, hk, hlk, ht, hf⟩ := hF
  exact va_put (D := (dC, dI)) (ci := ci) (v := v) (ty := ty) C.1 C.2.1 C.2.2.2.2.2.1 hin tys hty hnm C.2.2.2.2.1 K.1.1 P D S 0 rfl hcl k0 hk (C.2.2.2.2.2.1 _ hlk) (fun _ h => h) hf (by rw [hty k0 hk, ht]) hnr hft hlt hd (fun H1 locs1 P1 D1 S1 => kk l p e s m args below meth c A H1 locs1 lsr X N C K hA P1 D1 S1 L)
theorem Y_putF {idx ci k0 h N0 : Nat} {C0 : String} {T0 : u_T} {ty : FieldType} {fs : List Value} {v : Value} {tl : va_W} (hd : decode t.2.1 pc = .ok (.putfield idx, 3)) (hF : zFld t.1.cls idx ci k0 ty true) (hz : zcls[ci]? = some (C0, T0, N0)) (hdc : (T0 k0).1 = t.1.cls) (hini : t.1.name = "<init>") (hnr : narrow ty v = v) (hft : fits ty v = true) (hlt : k0 < fs.length) (kk : Y dC dI cI cJ cR R n k E B0 t (pc + 3) ls st ((h, .inr (ci, fs.set k0 v)) :: tl)) : Y dC dI cI cJ cR R n k E B0 t pc ls (v :: .ref h :: st) ((h, .inr (ci, fs)) :: tl) := by
  intro l p e s m args below meth c A H locs lsr X N C K hA P D S L
  obtain ⟨C', T, N', tys, ⟨hcl, hin, hty, hnm⟩, hk, hlk, ht, hf⟩ := hF
  rw [hcl] at hz
  cases hz
  exact va_putF (D := (dC, dI)) (ci := ci) (v := v) (ty := ty) C.1 C.2.1 C.2.2.2.2.2.1 hin tys hty hnm C.2.2.2.2.1 K.1.1 P D S 0 rfl hcl k0 hk (C.2.2.2.2.2.1 _ hlk) (fun _ h => h) hf (N hini) hdc (by rw [hty k0 hk, ht]) hnr hft hlt hd (fun H1 locs1 P1 D1 S1 => kk l p e s m args below meth c A H1 locs1 lsr X N C K hA P1 D1 S1 L)
theorem Y_mmax {idx b : Nat} {x y : Int32} (hd : decode t.2.1 pc = .ok (.invokestatic idx, 3)) (hlk : Cond.methodLink t.1.cls idx yJ9_max_7cf53 ∈ zTb) (hx : x = nI 0) (hy : y = nI b) (hb : b < 2147483648) (hdd : 1 ≤ R.frames) (hr : (st.map fun v => v.category).sum + 13 ≤ R.locals) (hn : n ≤ R.cells ∧ k ≤ R.slots) (kk : Y dC dI cI cJ cR R n k E B0 t (pc + 3) ls (.int (nI b) :: st) ws) : Y dC dI cI cJ cR R n k E B0 t pc ls (.int y :: .int x :: st) ws := by
  subst hx
  subst hy
  intro l p e s m args below meth c A H locs lsr X N C K hA P D S L
  refine va_mmax C.1 C.2.1 (by obtain ⟨h1, lv, h2, h3⟩ := L; rw [C.2.2.1]; exact h2.1.symm) C.2.2.2.2.1 (C.2.2.2.2.2.1 _ hlk) (C.2.2.2.2.2.1 _ zMx.1) (C.2.2.2.2.2.1 _ zMx.2.1) (C.2.2.2.2.2.1 _ zMx.2.2) hdd hr hn.1 hn.2 hd ?_
  have e9 : (if nI 0 < nI b then nI b else nI 0) = nI b := by
    rcases Nat.eq_zero_or_pos b with q | q
    · subst q; rw [ite_self]
    · rw [if_pos ((nI_ltI (by omega) hb).mpr q)]
  rw [e9]
  exact kk l p e s m args below meth c A H locs lsr X N C K hA P D S L
theorem Y_vret {mc ms : Nat} {lay : List zL} {Q : (Nat → Nat) → zI → zJ → Prop} {ad : Nat → Nat} {I : zI} {J : zJ} (hd : decode t.2.1 pc = .ok (.return_, 1)) (hr : t.2.2.2 = none) (hp : ws.Perm (zW cI cJ cR ad lay I J)) (hq : Q ad I J) : Y dC dI cI cJ cR R mc ms (yE lay Q mc ms) B0 t pc ls [] ws :=
  fun l p e s m args below meth c A H locs lsr X N C K hA P D S L => W.vret C.1 C.2.1 (C.2.2.2.1.trans hr) (fun u hu hW => ⟨⟨ad, I, J, rfl, hq, by rw [hu]; exact va_P_perm hp P, va_D_perm hp D⟩, S.F hu⟩) S.2.2 hd C.2.2.2.2.2.2
/-- on to the frame over a layout -/
theorem Y_G {B : gB} {lay : List zL} {ad : Nat → Nat} {I : zI} {J : zJ} {ls' st' : List Value} (hw : ws.Perm (zW cI cJ cR ad lay I J)) (hE : ∀ dC dI cI cJ cR A below args s, E dC dI cI cJ cR ad A below args s = E dC dI cI cJ cR id A below args s) (hB : ∀ A args s, B0 A args s → B ad A args s) (hl : ls = ls'.map (zrf ad)) (hs : st = st'.map (zrf ad)) (kk : G R n k E B lay t pc ls' st' I J) : Y dC dI cI cJ cR R n k E B0 t pc ls st ws := by
  subst hl
  subst hs
  intro l p e s m args below meth c A H locs lsr X N C K hA P D S L
  rw [← hE]
  exact kk l dC dI cI cJ cR ad p e s m args below meth c A H locs lsr (hB _ _ _ X) C K.1 hA (va_P_perm hw P) (va_D_perm hw D) S L.to
end YR
/-- a constructor's end, from the frame over a layout -/
theorem G_vret {R : Room} {mc ms : Nat} {lay : List zL} {Q : (Nat → Nat) → zI → zJ → Prop} {Bad : (Nat → Nat) → Prop} {t : zM} {pc : Nat} {ls : List Value} {I : zI} {J : zJ} (hd : decode t.2.1 pc = .ok (.return_, 1)) (hr : t.2.2.2 = none) (hq : ∀ ad, Bad ad → Q ad I J) : G R mc ms (yE lay Q mc ms) (fun ad _ _ _ => Bad ad) lay t pc ls [] I J :=
  fun l dC dI cI cJ cR ad p e s m args below meth c A H locs lsr X C K hA P D S L => W.vret C.1 C.2.1 (C.2.2.2.1.trans hr) (fun u hu hW => ⟨⟨ad, I, J, rfl, hq ad X, by rw [hu]; exact P, D⟩, S.F hu⟩) S.2.2 hd C.2.2.2.2.2.2
/-- from the entry to the contract -/
theorem yMet_of {lay : List zL} {t : zM} {d mc ms : Nat} {w : yW} {as : List Value} {ls : Nat → List Value} {Q : Nat → (Nat → Nat) → zI → zJ → Prop} (hy : plainName t.1.cls = true) (hini : t.1.name = "<init>") (hn : ∀ h, (zent (.ref h :: as)).length ≤ t.2.2.1) (hls : ∀ h, zent (.ref h :: as) ++ List.replicate (t.2.2.1 - (zent (.ref h :: as)).length) Value.null = ls h)
    (k : ∀ dC dI cI cJ cR h, Y dC dI cI cJ cR (yroom d mc ms) 0 0 (yE lay (Q h) mc ms) (fun _ _ _ => True) t 0 (ls h) [] (w cI cJ cR h)) : yMet lay t d mc ms w as Q := by
  intro l dC dI cI cJ cR h sz
  obtain ⟨y, cc, maxL, ret⟩ := t
  refine Met.ofW (cc := cc) (maxL := maxL) (ret := ret) hy rfl ?_
  intro p e s m args below meth c s₁ B hml hv
  obtain ⟨rfl, hsz, hP, hK, hD0⟩ := hv
  have hts := atoms_spec (ws := zws (y, cc, maxL, ret)) B.pre
  subst hsz
  have hD := hD0.self (sz := s.heap.size)
  have hl := lv_entry (.ref h :: as) (n := maxL) (by have h8 := zent_len id (.ref h :: as); rw [zrf0s] at h8; rw [h8]; exact hn h)
  rw [lg_entry_eq]
  refine k dC dI cI cJ cR h l p e s m _ below meth c (va_A (w cI cJ cR h) s.heap.size) s.heap [] _ trivial (fun _ => (name_of_methodNamed B.named B.method).1.trans hini) ⟨B.exec, B.bytes, hml, B.returns, findClass_of_methodNamed B.named, fun w hw => hts w (List.mem_cons_of_mem _ hw), B.notSynchronized⟩ hK (fun q h => Or.inr h) hP hD va_S.rf ⟨?_, _, hl, fun i v hi hv => ?_⟩
  · rw [← hls, List.length_append, List.length_replicate]
    show (zent (.ref h :: as)).length + (maxL - (zent (.ref h :: as)).length) = maxL
    have h9 : (zent (.ref h :: as)).length ≤ maxL := hn h
    omega
  · rw [← hls] at hi
    have h9 := zent_in id (.ref h :: as) 0 _ i v hi hv
    rw [zrf0s] at h9
    rwa [Nat.zero_add] at h9
