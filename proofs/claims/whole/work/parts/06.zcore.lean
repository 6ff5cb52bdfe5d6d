/-! ===== the walk in one shape: a method's frame over a fixed layout; what moves is two functions ===== -/
abbrev zI : Type := Nat → Nat → Int32
abbrev zJ : Type := Nat → Nat → Int64
/-- a cell of the layout: an object (class, fields: 0 an int, 1 a long, b + 2 the cell b), an int row, a long row, a row of rows -/
abbrev zL : Type := (Nat × List Nat) ⊕ (Nat ⊕ (Nat ⊕ List Nat))
def zup {α : Type} (I : Nat → Nat → α) (a k : Nat) (v : α) : Nat → Nat → α := fun x y => if x = a ∧ y = k then v else I x y
theorem zup_s {α : Type} (I : Nat → Nat → α) (a k : Nat) (v : α) : zup I a k v a k = v := by simp [zup]
theorem zup_n {α : Type} (I : Nat → Nat → α) {a k x y : Nat} (v : α) (h : ¬ (x = a ∧ y = k)) : zup I a k v x y = I x y := by simp only [zup]; rw [if_neg h]
/-- a stretch of one row into another (or the same) -/
def zcp {α : Type} (I : Nat → Nat → α) (a i b j n : Nat) : Nat → Nat → α := fun x y => if x = b ∧ j ≤ y ∧ y < j + n then I a (i + (y - j)) else I x y
def zrf (ad : Nat → Nat) : Value → Value
  | .ref k => .ref (ad k)
  | v => v
theorem zrf_cat (ad : Nat → Nat) (v : Value) : (zrf ad v).category = v.category := by cases v <;> rfl
theorem zrf_cats (ad : Nat → Nat) (l : List Value) : (l.map (zrf ad)).map (fun v => v.category) = l.map (fun v => v.category) := by
  rw [List.map_map]
  exact List.map_congr_left (fun v _ => zrf_cat ad v)
def zfv (ad : Nat → Nat) (I : zI) (J : zJ) (a j f : Nat) : Value := match f with
  | 0 => .int (I a j)
  | 1 => .long (J a j)
  | b + 2 => .ref (ad b)
def zcell (cI cJ cR : ClassId) (ad : Nat → Nat) (I : zI) (J : zJ) (a : Nat) : zL → va_E
  | .inl (ci, fl) => .inr (ci, fl.mapIdx (fun j f => zfv ad I J a j f))
  | .inr (.inl n) => .inl (cI, n, .inl (I a))
  | .inr (.inr (.inl n)) => .inl (cJ, n, .inr (.inl (J a)))
  | .inr (.inr (.inr rs)) => .inl (cR, rs.length, .inr (.inr (.inr (.inr (fun i => (rs[i]?).map ad)))))
def zW (cI cJ cR : ClassId) (ad : Nat → Nat) (lay : List zL) (I : zI) (J : zJ) : va_W := lay.mapIdx (fun a c => (ad a, zcell cI cJ cR ad I J a c))
theorem zW_get {cI cJ cR : ClassId} {ad : Nat → Nat} {lay : List zL} {I : zI} {J : zJ} {a : Nat} {c : zL} (h : lay[a]? = some c) : (zW cI cJ cR ad lay I J)[a]? = some (ad a, zcell cI cJ cR ad I J a c) := by
  unfold zW
  rw [List.getElem?_mapIdx, h]
  rfl
theorem zW_at {cI cJ cR : ClassId} {ad : Nat → Nat} {lay : List zL} {I : zI} {J : zJ} {a : Nat} {q : Nat × va_E} (h : (zW cI cJ cR ad lay I J)[a]? = some q) : ∃ c, lay[a]? = some c ∧ q = (ad a, zcell cI cJ cR ad I J a c) := by
  unfold zW at h
  rw [List.getElem?_mapIdx] at h
  cases hc : lay[a]? with
  | none => rw [hc] at h; cases h
  | some c => rw [hc] at h; cases h; exact ⟨c, rfl, rfl⟩
theorem zW_set {cI cJ cR : ClassId} {ad : Nat → Nat} {lay : List zL} {I I' : zI} {J J' : zJ} {a : Nat} {c : zL} {e : va_E} (h : lay[a]? = some c) (he : zcell cI cJ cR ad I' J' a c = e) (ho : ∀ (b : Nat) (d : zL), b ≠ a → zcell cI cJ cR ad I' J' b d = zcell cI cJ cR ad I J b d) : (zW cI cJ cR ad lay I J).set a (ad a, e) = zW cI cJ cR ad lay I' J' := by
  apply List.ext_getElem?
  intro b
  rw [List.getElem?_set]
  unfold zW
  rw [List.getElem?_mapIdx, List.getElem?_mapIdx]
  have hlt : a < lay.length := (List.getElem?_eq_some_iff.mp h).1
  by_cases hb : a = b
  · subst hb
    rw [if_pos rfl, if_pos (by rw [List.length_mapIdx]; exact hlt), h]
    simp [he]
  · rw [if_neg hb]
    cases lay[b]? with
    | none => rfl
    | some d => simp [ho b d (fun q => hb q.symm)]
theorem zW_D {cI cJ cR : ClassId} {ad : Nat → Nat} {lay : List zL} {I I' : zI} {J J' : zJ} {A : Nat → Prop} (h : va_D A (zW cI cJ cR ad lay I J)) : va_D A (zW cI cJ cR ad lay I' J') := by
  refine ⟨fun i j p q hi hj hpq => ?_, fun k q hk => ?_⟩
  · obtain ⟨c, h1, rfl⟩ := zW_at hi
    obtain ⟨d, h2, rfl⟩ := zW_at hj
    exact h.1 i j _ _ (zW_get h1) (zW_get h2) hpq
  · obtain ⟨c, h1, rfl⟩ := zW_at hk
    exact h.2 k (ad k, zcell cI cJ cR ad I J k c) (zW_get h1)
theorem zfv_int {ad : Nat → Nat} {I : zI} {J : zJ} {a k : Nat} {v : Int32} {fl : List Nat} (hf : fl[k]? = some 0) : (fl.mapIdx (fun j f => zfv ad I J a j f)).set k (.int v) = fl.mapIdx (fun j f => zfv ad (zup I a k v) J a j f) := by
  apply List.ext_getElem?
  intro b
  rw [List.getElem?_set, List.getElem?_mapIdx, List.getElem?_mapIdx, List.length_mapIdx]
  by_cases hb : k = b
  · subst hb
    rw [if_pos rfl, if_pos (List.getElem?_eq_some_iff.mp hf).1, hf]
    simp [zfv, zup]
  · rw [if_neg hb]
    cases fl[b]? with
    | none => rfl
    | some d =>
      match d with
      | 0 => simp [zfv, zup, show ¬ b = k from fun q => hb q.symm]
      | 1 => rfl
      | _ + 2 => rfl
theorem zfv_long {ad : Nat → Nat} {I : zI} {J : zJ} {a k : Nat} {v : Int64} {fl : List Nat} (hf : fl[k]? = some 1) : (fl.mapIdx (fun j f => zfv ad I J a j f)).set k (.long v) = fl.mapIdx (fun j f => zfv ad I (zup J a k v) a j f) := by
  apply List.ext_getElem?
  intro b
  rw [List.getElem?_set, List.getElem?_mapIdx, List.getElem?_mapIdx, List.length_mapIdx]
  by_cases hb : k = b
  · subst hb
    rw [if_pos rfl, if_pos (List.getElem?_eq_some_iff.mp hf).1, hf]
    simp [zfv, zup]
  · rw [if_neg hb]
    cases fl[b]? with
    | none => rfl
    | some d =>
      match d with
      | 0 => rfl
      | 1 => simp [zfv, zup, show ¬ b = k from fun q => hb q.symm]
      | _ + 2 => rfl
theorem zcell_oI {cI cJ cR : ClassId} {ad : Nat → Nat} {I : zI} {J : zJ} {a k : Nat} {v : Int32} (b : Nat) (d : zL) (h : b ≠ a) : zcell cI cJ cR ad (zup I a k v) J b d = zcell cI cJ cR ad I J b d := by
  have e : ∀ y, zup I a k v b y = I b y := fun y => zup_n I v (fun q => h q.1)
  rcases d with ⟨ci, fl⟩ | n | n | rs
  · simp only [zcell]
    congr 2
    refine congrArg (fun g => List.mapIdx g fl) ?_
    funext j f
    match f with
    | 0 => simp only [zfv, e]
    | 1 => rfl
    | _ + 2 => rfl
  · simp only [zcell]
    rw [show zup I a k v b = I b from funext e]
  · rfl
  · rfl
theorem zcell_oJ {cI cJ cR : ClassId} {ad : Nat → Nat} {I : zI} {J : zJ} {a k : Nat} {v : Int64} (b : Nat) (d : zL) (h : b ≠ a) : zcell cI cJ cR ad I (zup J a k v) b d = zcell cI cJ cR ad I J b d := by
  have e : ∀ y, zup J a k v b y = J b y := fun y => zup_n J v (fun q => h q.1)
  rcases d with ⟨ci, fl⟩ | n | n | rs
  · simp only [zcell]
    congr 2
    refine congrArg (fun g => List.mapIdx g fl) ?_
    funext j f
    match f with
    | 0 => rfl
    | 1 => simp only [zfv, e]
    | _ + 2 => rfl
  · rfl
  · simp only [zcell]
    rw [show zup J a k v b = J b from funext e]
  · rfl
theorem zcell_cI {cI cJ cR : ClassId} {ad : Nat → Nat} {I : zI} {J : zJ} {a x y i n : Nat} (b : Nat) (d : zL) (h : b ≠ a) : zcell cI cJ cR ad (zcp I x i a y n) J b d = zcell cI cJ cR ad I J b d := by
  have e : ∀ j, zcp I x i a y n b j = I b j := fun j => by simp [zcp, h]
  rcases d with ⟨ci, fl⟩ | n | n | rs
  · simp only [zcell]
    congr 2
    refine congrArg (fun g => List.mapIdx g fl) ?_
    funext j f
    match f with
    | 0 => simp only [zfv, e]
    | 1 => rfl
    | _ + 2 => rfl
  · simp only [zcell]
    rw [show zcp I x i a y _ b = I b from funext e]
  · rfl
  · rfl
theorem zcell_cJ {cI cJ cR : ClassId} {ad : Nat → Nat} {I : zI} {J : zJ} {a x y i n : Nat} (b : Nat) (d : zL) (h : b ≠ a) : zcell cI cJ cR ad I (zcp J x i a y n) b d = zcell cI cJ cR ad I J b d := by
  have e : ∀ j, zcp J x i a y n b j = J b j := fun j => by simp [zcp, h]
  rcases d with ⟨ci, fl⟩ | n | n | rs
  · simp only [zcell]
    congr 2
    refine congrArg (fun g => List.mapIdx g fl) ?_
    funext j f
    match f with
    | 0 => rfl
    | 1 => simp only [zfv, e]
    | _ + 2 => rfl
  · rfl
  · simp only [zcell]
    rw [show zcp J x i a y _ b = J b from funext e]
  · rfl
/-! locals -/
def zk (w : Value) : Value := match w with
  | .long _ => .null
  | .double _ => .null
  | w => w
def zst1 : List Value → Nat → Value → List Value
  | [], _, _ => []
  | _ :: r, 0, v => v :: r
  | w :: r, 1, v => zk w :: zst1 r 0 v
  | w :: r, i + 2, v => w :: zst1 r (i + 1) v
def zst2 : List Value → Nat → Value → List Value
  | [], _, _ => []
  | _ :: r, 0, v => v :: zst1 r 0 .null
  | w :: r, 1, v => zk w :: zst2 r 0 v
  | w :: r, i + 2, v => w :: zst2 r (i + 1) v
theorem zst1_len : ∀ (l : List Value) (i : Nat) (v : Value), (zst1 l i v).length = l.length
  | [], _, _ => rfl
  | _ :: _, 0, _ => rfl
  | _ :: r, 1, v => by simp [zst1, zst1_len r 0 v]
  | _ :: r, i + 2, v => by simp [zst1, zst1_len r (i + 1) v]
theorem zst2_len : ∀ (l : List Value) (i : Nat) (v : Value), (zst2 l i v).length = l.length
  | [], _, _ => rfl
  | _ :: r, 0, _ => by simp [zst2, zst1_len r 0 .null]
  | _ :: r, 1, v => by simp [zst2, zst2_len r 0 v]
  | _ :: r, i + 2, v => by simp [zst2, zst2_len r (i + 1) v]
theorem zk_in {w x : Value} (h : zk w = x) (hx : x ≠ .null) : w = x ∧ ¬ w.category = 2 := by
  cases w <;> simp [zk, Value.category] at h ⊢ <;> first | exact h | exact absurd h.symm hx
theorem zst1_in : ∀ (l : List Value) (i : Nat) (v : Value) (j : Nat) (w : Value), (zst1 l i v)[j]? = some w → w ≠ .null → (j = i ∧ w = v) ∨ (l[j]? = some w ∧ j ≠ i ∧ ¬ (j + 1 = i ∧ w.category = 2))
  | [], _, _, _, _, h, _ => by simp [zst1] at h
  | _ :: _, 0, v, 0, w, h, _ => by simp [zst1] at h; exact Or.inl ⟨rfl, h.symm⟩
  | _ :: r, 0, v, j + 1, w, h, _ => by
    simp [zst1] at h
    exact Or.inr ⟨by simpa using h, by omega, by omega⟩
  | x :: r, 1, v, 0, w, h, hw => by
    simp [zst1] at h
    obtain ⟨h1, h2⟩ := zk_in h hw
    subst h1
    exact Or.inr ⟨by simp, by omega, fun q => h2 q.2⟩
  | x :: r, 1, v, j + 1, w, h, hw => by
    simp [zst1] at h
    rcases zst1_in r 0 v j w h hw with ⟨h1, h2⟩ | ⟨h1, h2, h3⟩
    · exact Or.inl ⟨by omega, h2⟩
    · exact Or.inr ⟨by simpa using h1, by omega, by omega⟩
  | x :: r, i + 2, v, 0, w, h, hw => by
    simp [zst1] at h
    exact Or.inr ⟨by simpa using h, by omega, by omega⟩
  | x :: r, i + 2, v, j + 1, w, h, hw => by
    simp [zst1] at h
    rcases zst1_in r (i + 1) v j w h hw with ⟨h1, h2⟩ | ⟨h1, h2, h3⟩
    · exact Or.inl ⟨by omega, h2⟩
    · exact Or.inr ⟨by simpa using h1, by omega, fun q => h3 ⟨by omega, q.2⟩⟩
theorem zst2_in : ∀ (l : List Value) (i : Nat) (v : Value) (j : Nat) (w : Value), (zst2 l i v)[j]? = some w → w ≠ .null → (j = i ∧ w = v) ∨ (l[j]? = some w ∧ j ≠ i ∧ j ≠ i + 1 ∧ ¬ (j + 1 = i ∧ w.category = 2))
  | [], _, _, _, _, h, _ => by simp [zst2] at h
  | _ :: _, 0, v, 0, w, h, _ => by simp [zst2] at h; exact Or.inl ⟨rfl, h.symm⟩
  | x :: r, 0, v, j + 1, w, h, hw => by
    simp [zst2] at h
    rcases zst1_in r 0 .null j w h hw with ⟨h1, h2⟩ | ⟨h1, h2, h3⟩
    · exact absurd h2 hw
    · exact Or.inr ⟨by simpa using h1, by omega, by omega, by omega⟩
  | x :: r, 1, v, 0, w, h, hw => by
    simp [zst2] at h
    obtain ⟨h1, h2⟩ := zk_in h hw
    subst h1
    exact Or.inr ⟨by simp, by omega, by omega, fun q => h2 q.2⟩
  | x :: r, 1, v, j + 1, w, h, hw => by
    simp [zst2] at h
    rcases zst2_in r 0 v j w h hw with ⟨h1, h2⟩ | ⟨h1, h2, h3, h4⟩
    · exact Or.inl ⟨by omega, h2⟩
    · exact Or.inr ⟨by simpa using h1, by omega, by omega, by omega⟩
  | x :: r, i + 2, v, 0, w, h, hw => by
    simp [zst2] at h
    exact Or.inr ⟨by simpa using h, by omega, by omega, by omega⟩
  | x :: r, i + 2, v, j + 1, w, h, hw => by
    simp [zst2] at h
    rcases zst2_in r (i + 1) v j w h hw with ⟨h1, h2⟩ | ⟨h1, h2, h3, h4⟩
    · exact Or.inl ⟨by omega, h2⟩
    · exact Or.inr ⟨by simpa using h1, by omega, by omega, fun q => h4 ⟨by omega, q.2⟩⟩
/-- the machine's locals hold what the list says (null: nothing is said) -/
def zlv (ad : Nat → Nat) (nL : Nat) (ls : List Value) (lsr : Array Slot) : Prop := ls.length = nL ∧ ∃ lv, lv_has lsr nL lv ∧ ∀ (i : Nat) (v : Value), ls[i]? = some v → v ≠ .null → (i, zrf ad v) ∈ lv
theorem zlv.at {ad : Nat → Nat} {nL : Nat} {ls : List Value} {lsr : Array Slot} (h : zlv ad nL ls lsr) {i : Nat} {v : Value} (hi : ls[i]? = some v) (hv : v ≠ .null) : lsr[i]? = some (.val (zrf ad v)) := by
  obtain ⟨_, lv, h1, h2⟩ := h
  exact h1.2.2 _ (h2 i v hi hv)
theorem zlv.st1 {ad : Nat → Nat} {nL : Nat} {ls : List Value} {lsr' : Array Slot} {i : Nat} {v : Value} {lv : List (Nat × Value)} (hl : ls.length = nL) (h2 : ∀ (i : Nat) (v : Value), ls[i]? = some v → v ≠ .null → (i, zrf ad v) ∈ lv) (h : lv_has lsr' nL ((i, zrf ad v) :: lv.filter (fun q => !(q.1 == i) && !(q.1 + 1 == i && q.2.category == 2)))) : zlv ad nL (zst1 ls i v) lsr' := by
  refine ⟨by rw [zst1_len]; exact hl, _, h, fun j w hj hw => ?_⟩
  rcases zst1_in ls i v j w hj hw with ⟨rfl, rfl⟩ | ⟨h1, h3, h4⟩
  · exact List.mem_cons_self
  · refine List.mem_cons_of_mem _ (List.mem_filter.mpr ⟨h2 j w h1 hw, ?_⟩)
    simp only [zrf_cat]
    by_cases hc : w.category = 2
    · simp [h3, hc]; exact fun q => h4 ⟨q, hc⟩
    · simp [h3, hc]
theorem zlv.st2 {ad : Nat → Nat} {nL : Nat} {ls : List Value} {lsr' : Array Slot} {i : Nat} {v : Value} {lv : List (Nat × Value)} (hl : ls.length = nL) (h2 : ∀ (i : Nat) (v : Value), ls[i]? = some v → v ≠ .null → (i, zrf ad v) ∈ lv) (h : lv_has lsr' nL ((i, zrf ad v) :: lv.filter (fun q => !(q.1 == i) && (!(q.1 == i + 1) && !(q.1 + 1 == i && q.2.category == 2))))) : zlv ad nL (zst2 ls i v) lsr' := by
  refine ⟨by rw [zst2_len]; exact hl, _, h, fun j w hj hw => ?_⟩
  rcases zst2_in ls i v j w hj hw with ⟨rfl, rfl⟩ | ⟨h1, h3, h5, h4⟩
  · exact List.mem_cons_self
  · refine List.mem_cons_of_mem _ (List.mem_filter.mpr ⟨h2 j w h1 hw, ?_⟩)
    simp only [zrf_cat]
    by_cases hc : w.category = 2
    · simp [h3, h5, hc]; exact fun q => h4 ⟨q, hc⟩
    · simp [h3, h5, hc]
