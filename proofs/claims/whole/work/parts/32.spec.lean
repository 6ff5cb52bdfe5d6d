/-! ===== what both sides are: the state, the calls ===== -/
abbrev zS : Type := (Nat → Nat) × Nat × (Nat → Nat) × Nat × (Nat → Nat) × (Nat → Int32) × (Nat → Nat) × (Nat → Nat → Int64)
def zS.n (S : zS) : Nat → Nat := S.1
def zS.t (S : zS) : Nat := S.2.1
def zS.g (S : zS) : Nat → Nat := S.2.2.1
def zS.len (S : zS) : Nat := S.2.2.2.1
def zS.tx (S : zS) : Nat → Nat := S.2.2.2.2.1
def zS.so (S : zS) : Nat → Int32 := S.2.2.2.2.2.1
def zS.le (S : zS) : Nat → Nat := S.2.2.2.2.2.2.1
def zS.it (S : zS) : Nat → Nat → Int64 := S.2.2.2.2.2.2.2
def zS.up (S : zS) (n : Nat → Nat) : zS := (n, S.2)
def zS.upX (S : zS) (len : Nat) (tx : Nat → Nat) : zS := (S.n, S.t, S.g, len, tx, S.so, S.le, S.it)
def zS.upG (S : zS) (g : Nat → Nat) : zS := (S.n, 1, g, S.len, S.tx, S.so, S.le, S.it)
def zS.upQ (S : zS) (so : Nat → Int32) (le : Nat → Nat) (it : Nat → Nat → Int64) : zS := (S.n, S.t, S.g, S.len, S.tx, so, le, it)
noncomputable def zite {α : Type} (P : Prop) (a b : α) : α := @ite α P (Classical.propDecidable P) a b
theorem zite_y {α : Type} {P : Prop} {a b : α} (h : P) : zite P a b = a := by unfold zite; exact if_pos h
theorem zite_n {α : Type} {P : Prop} {a b : α} (h : ¬ P) : zite P a b = b := by unfold zite; exact if_neg h
def zls1 (n : Nat → Nat) (e : Nat) : Prop := e / 100 / 3 < n 0 ∧ e / 100 % 3 < n 1 ∧ e % 100 ≤ 60
def bN (n : Nat → Nat) : Prop := bS n ∧ bT n ∧ (n 4 ≤ 5 ∧ n 5 ≤ 8 ∧ n 6 ≤ 8) ∧ (∀ k, k < n 4 → zls1 n (n (52 + k))) ∧ (∀ k, k < n 5 → zevok n (n (57 + k) / 100) (n (57 + k) % 100)) ∧ ∀ k, k < n 6 → zls1 n (n (65 + k))
theorem bN_of {n n' : Nat → Nat} (h : bN n) (hS : bS n') (hT : bT n') (h0 : n' 0 = n 0) (h1 : n' 1 = n 1) (hn : ∀ k, ((4 ≤ k ∧ k < 7) ∨ 52 ≤ k) → n' k = n k) : bN n' := by
  obtain ⟨q1, q2, q3, q4, q5, q6⟩ := h
  refine ⟨hS, hT, ?_, fun k hk => ?_, fun k hk => ?_, fun k hk => ?_⟩
  · rw [hn 4 (by omega), hn 5 (by omega), hn 6 (by omega)]; exact q3
  · rw [hn 4 (by omega)] at hk
    unfold zls1
    rw [h0, h1, hn (52 + k) (by omega)]; exact q4 k hk
  · rw [hn 5 (by omega)] at hk
    unfold zevok
    rw [h0, h1, hn (57 + k) (by omega)]; exact q5 k hk
  · rw [hn 6 (by omega)] at hk
    unfold zls1
    rw [h0, h1, hn (65 + k) (by omega)]; exact q6 k hk
/-- arguments read: a cell, a line, a number up to a bound -/
def zt (x : Int32) : Nat := x.toInt.toNat
theorem zt_nI {a : Nat} (h : a < 2147483648) : zt (nI a) = a := by
  unfold zt
  rw [nI_toInt h]
  exact Int.toNat_natCast a
noncomputable def zC (r c : Nat) (i j : Int32) : Option Nat := zite (isC r c i j) (some (3 * zt i + zt j)) none
noncomputable def zLn (r c : Nat) (w l : Int32) : Option (Nat × Nat) := zite (isLn r c w l) (some (zt w, zt l)) none
def isR (M : Nat) (x : Int32) : Prop := ∃ a, x = nI a ∧ a ≤ M
noncomputable def zR (M : Nat) (x : Int32) : Option Nat := zite (isR M x) (some (zt x)) none
theorem zC_n {r c : Nat} {i j : Int32} (h : ¬ isC r c i j) : zC r c i j = none := zite_n h
theorem zC_y {r c a b : Nat} (hr : r ≤ 3) (hc : c ≤ 3) (ha : a < r) (hb : b < c) : zC r c (nI a) (nI b) = some (3 * a + b) := by
  unfold zC
  rw [zite_y ⟨a, b, rfl, rfl, ha, hb⟩, zt_nI (by omega), zt_nI (by omega)]
theorem zLn_n {r c : Nat} {w l : Int32} (h : ¬ isLn r c w l) : zLn r c w l = none := zite_n h
theorem zLn_y {r c a b : Nat} (hr : r ≤ 3) (hc : c ≤ 3) (ha : a ≤ 2) (hb : b < zlines r c a) : zLn r c (nI a) (nI b) = some (a, b) := by
  have h3 := zlines_le (w := a) hr hc
  unfold zLn
  rw [zite_y ⟨a, b, rfl, rfl, ha, hb⟩, zt_nI (by omega), zt_nI (by omega)]
theorem zR_n {M : Nat} {x : Int32} (h : ¬ isR M x) : zR M x = none := zite_n h
theorem zR_y {M a : Nat} (hM : M < 2147483648) (ha : a ≤ M) : zR M (nI a) = some a := by
  unfold zR
  rw [zite_y ⟨a, rfl, ha⟩, zt_nI (by omega)]
theorem isR_1 {M : Nat} {x : Int32} (hM : M < 2147483648) (h : x < 0) : ¬ isR M x := by
  rintro ⟨a, rfl, ha⟩
  exact nI_pos (by omega) h
theorem isR_2 {M : Nat} {x : Int32} (hM : M < 2147483648) (h : nI M < x) : ¬ isR M x := by
  rintro ⟨a, rfl, ha⟩
  exact absurd ((nI_ltI (by omega) (by omega)).mp h) (by omega)
/-- one number changed -/
theorem zset1_s {v : Nat → Nat} {k x : Nat} : zset1 v k x k = x := if_pos rfl
theorem zset1_o {v : Nat → Nat} {k x j : Nat} (h : j ≠ k) : zset1 v k x j = v j := if_neg h
/-! the calls -/
noncomputable def fsize (S : zS) (r c : Int32) : Value × zS := match zR 3 r, zR 3 c with
  | some a, some b => if 1 ≤ a ∧ 1 ≤ b then (.int (nI (a * b)), S.up (zsize S.n a b)) else (.int (-2), S)
  | _, _ => (.int (-2), S)
noncomputable def ftell (S : zS) (i j v : Int32) : Value × zS := match zC (S.n 0) (S.n 1) i j with
  | none => (.int (-1), S)
  | some k => match zR 20 v with
    | none => (.int (-2), S)
    | some x => (.int (nI (S.n (7 + k))), S.up (ztk (zset1 S.n (7 + k) x)))
noncomputable def fmark (S : zS) (i j v : Int32) : Value × zS := match zC (S.n 0) (S.n 1) i j with
  | none => (.int (-1), S)
  | some k => match zR 2 v with
    | none => (.int (-2), S)
    | some x => (.int (nI (S.n (16 + k))), S.up (zset1 S.n (16 + k) x))
noncomputable def fmargin (S : zS) (w l v : Int32) : Value × zS := match zLn (S.n 0) (S.n 1) w l with
  | none => (.int (-1), S)
  | some p => match zR 60 v with
    | none => (.int (-2), S)
    | some x => (.int (nI (S.n (25 + (3 * p.1 + p.2)))), S.up (zset1 S.n (25 + (3 * p.1 + p.2)) x))
def fthree (S : zS) (b : Nat) : Value × zS := (.int (nI (S.n 2)), S.up (zset1 S.n 2 b))
noncomputable def fof (S : zS) (i j w : Int32) : Value × zS := match zC (S.n 0) (S.n 1) i j with
  | none => (.int (-1), S)
  | some k => (.int (if w = nI 0 then nI (S.n (7 + k)) else if w = nI 1 then nI (S.n (16 + k)) else -1), S)
noncomputable def fmarginOf (S : zS) (w l : Int32) : Value × zS := match zLn (S.n 0) (S.n 1) w l with
  | none => (.int (-1), S)
  | some p => (.int (nI (S.n (25 + (3 * p.1 + p.2)))), S)
noncomputable def ffeed (S : zS) (c : Int32) : Value × zS := match zR 127 c with
  | none => (.int (-2), S)
  | some x => if S.len = 100 then (.int (-4), S) else (.int (nI (S.len + 1)), S.upX (S.len + 1) (zset1 S.tx S.len x))
/-- a clause: its kind and three numbers -/
def zcl (tx : Nat → Nat) (a e : Nat) : Nat × Nat × Nat × Nat := (tx a, tx (a + 1) - 48, tx (a + 2) - 48, if e = a + 4 then tx (a + 3) - 48 else 10 * (tx (a + 3) - 48) + (tx (a + 4) - 48))
noncomputable def zdoes (S : zS) (q : Nat × Nat × Nat × Nat) : Value × zS := if q.1 = 115 then fsize S (nI q.2.1) (nI q.2.2.1) else if q.1 = 110 then ftell S (nI q.2.1) (nI q.2.2.1) (nI q.2.2.2) else if q.1 = 107 then fmark S (nI q.2.1) (nI q.2.2.1) (nI q.2.2.2) else if q.1 = 109 then fmargin S (nI q.2.1) (nI q.2.2.1) (nI q.2.2.2) else fthree S (1 - S.n 2)
def zge (v : Value) : Nat := match v with
  | .int x => if 0 ≤ x then 1 else 0
  | _ => 0
/-- clauses done one after another, from a place of the text on -/
noncomputable def zdo (len : Nat) (tx : Nat → Nat) : Nat → Nat → Nat → zS → Nat × zS
  | 0, _, d, S => (d, S)
  | m + 1, a, d, S => if len ≤ a then (d, S) else zdo len tx m ((zce len tx a).2 + 1) (d + zge (zdoes S (zcl tx a (zce len tx a).2)).1) (zdoes S (zcl tx a (zce len tx a).2)).2
noncomputable def fread (S : zS) : Value × zS := match zfa S.len S.tx 12 0 with
  | some e => (.int (-10 - nI e), S.upX 0 S.tx)
  | none => (.int (nI (zdo S.len S.tx 12 0 0 S).1), (zdo S.len S.tx 12 0 0 S).2.upX 0 S.tx)
def fbegin (S : zS) : Value × zS := (.int (nI (S.n 3)), S.up (ztk S.n))
noncomputable def ffit (S : zS) (w : Int32) : Value × zS := match zR 2 w with
  | none => (.int (-1), S)
  | some a => if a = 2 ∧ S.n 2 = 0 then (.int (-3), S) else match zfit S.n a S.n with
    | none => (.int (-6), S)
    | some m => (.int (nI (zdf m S.n (zl (S.n 0) (S.n 1) 0))), S.up m)
/-- one round -/
def zrd (n : Nat → Nat) : Option (Nat → Nat) := match zfit n 0 n with
  | none => none
  | some a => match zfit n 1 a with
    | none => none
    | some b => match (if n 2 = 0 then some b else zfit n 2 b) with
      | none => none
      | some c => if zdf c n (zl (n 0) (n 1) 0) = 0 then none else some (zset1 c 3 (n 3 + 1))
def zrds : Nat → Nat → (Nat → Nat) → Nat × (Nat → Nat)
  | 0, d, n => (d, n)
  | m + 1, d, n => match zrd n with
    | none => (d, n)
    | some n' => zrds m (d + 1) n'
noncomputable def frounds (S : zS) (v : Int32) : Value × zS := match zR 20 v with
  | none => (.int (-2), S)
  | some x => (.int (nI (zrds x 0 S.n).1), S.up (zrds x 0 S.n).2)
def zpt (p : Int32) (x y : Nat) : Int64 := if p = nI 0 then lN x else if p = nI 1 then lN y else -9223372036854775808
def zno : Int64 := -9223372036854775808
noncomputable def fcell (S : zS) (i j p : Int32) : Value × zS := match zC (S.n 0) (S.n 1) i j with
  | none => (.long zno, S)
  | some k => (.long (zpt p (S.n (34 + k)) (S.n (43 + k))), S)
noncomputable def fsum (S : zS) (w l p : Int32) : Value × zS := match zLn (S.n 0) (S.n 1) w l with
  | none => (.long zno, S)
  | some q => match zsm S.n S.n q.1 q.2 with
    | none => (.long zno, S)
    | some s => (.long (zpt p s.1 s.2), S)
def zgp (n : Nat → Nat) (w l : Nat) : Option (Nat × Nat) := match zsm n n w l with
  | none => none
  | some q => some (zred (if n (25 + (3 * w + l)) * q.2 ≤ q.1 then q.1 - n (25 + (3 * w + l)) * q.2 else n (25 + (3 * w + l)) * q.2 - q.1) q.2)
noncomputable def fgap (S : zS) (w l p : Int32) : Value × zS := match zLn (S.n 0) (S.n 1) w l with
  | none => (.long zno, S)
  | some q => match zgp S.n q.1 q.2 with
    | none => (.long zno, S)
    | some s => (.long (zpt p s.1 s.2), S)
/-- the widest gap: over lines f of a way from l on -/
def zwl (n : Nat → Nat) (w : Nat) : Nat → Nat → (Option Nat × (Nat × Nat)) → Option (Option Nat × (Nat × Nat))
  | 0, _, b => some b
  | f + 1, l, b => match zgp n w l with
    | none => none
    | some q => zwl n w f (l + 1) (if b.1 = none ∨ b.2.1 * q.2 < q.1 * b.2.2 then (some (10 * w + l), q) else b)
def zww (n : Nat → Nat) : Nat → Nat → (Option Nat × (Nat × Nat)) → Option (Option Nat × (Nat × Nat))
  | 0, _, b => some b
  | f + 1, w, b => match zwl n w (zlines (n 0) (n 1) w) 0 b with
    | none => none
    | some b' => zww n f (w + 1) b'
def zwide (n : Nat → Nat) : Option (Option Nat × (Nat × Nat)) := zww n (2 + n 2) 0 (none, (0, 1))
def zin (o : Option Nat) : Int32 := match o with
  | none => -1
  | some x => nI x
def ffar (S : zS) : Value × zS := match zwide S.n with
  | none => (.int (-6), S)
  | some b => (.int (zin b.1), S)
noncomputable def ftold (S : zS) (w : Int32) : Value × zS := (.int (if w = nI 0 then nI (S.n 0) else if w = nI 1 then nI (S.n 1) else if w = nI 2 then nI (S.n 2) else if w = nI 3 then nI (S.n 3) else if w = nI 4 then (match zwide S.n with
    | none => -6
    | some b => if b.2.1 = 0 then nI 1 else nI 0) else if w = nI 5 then (if zall S.n 0 = zall S.n 1 ∧ zforb S.n = 0 then nI 1 else nI 0) else if w = nI 6 then nI (zforb S.n) else if w = nI 7 then nI (zlsum (fun k => S.n (7 + k)) (zl (S.n 0) (S.n 1) 0)) else -1), S)
noncomputable def frounded (S : zS) (i j : Int32) : Value × zS := match zC (S.n 0) (S.n 1) i j with
  | none => (.int (-1), S)
  | some k => match zrnd S.n S.n with
    | none => (.int (-6), S)
    | some w => (.int (nI (w k)), S)
/-- the whole numbers of a line together -/
def ztg (n w : Nat → Nat) (a l : Nat) : Nat := zlsum (zif (zP n a l) w) (zl (n 0) (n 1) 0)
noncomputable def ftogether (S : zS) (w l : Int32) : Value × zS := match zLn (S.n 0) (S.n 1) w l with
  | none => (.int (-1), S)
  | some q => match zrnd S.n S.n with
    | none => (.int (-6), S)
    | some v => (.int (nI (ztg S.n v q.1 q.2)), S)
def zcab (n : Nat → Nat) (a b c d : Nat) : (Nat → Nat) × (Nat → Nat) := (fun k => if k = 0 then n (34 + a) else if k = 1 then n (43 + b) else if k = 2 then n (34 + c) else n (43 + d), fun k => if k = 0 then n (43 + a) else if k = 1 then n (34 + b) else if k = 2 then n (43 + c) else n (34 + d))
noncomputable def fcross (S : zS) (i k j l p : Int32) : Value × zS := match zC (S.n 0) (S.n 1) i j, zC (S.n 0) (S.n 1) k l, zR 1 p with
  | some a, some c, some q => (.long (zcro (if S.n (34 + (3 * zt k + zt j)) = 0 then 1 else if S.n (34 + (3 * zt i + zt l)) = 0 then 1 else 0) (zcab S.n a (3 * zt i + zt l) c (3 * zt k + zt j)) q), S)
  | _, _, _ => (.long zno, S)
/-- orders: the counts of one cell, of all -/
def zo1 : Nat → Nat → Nat × Nat → Option (Nat × Nat)
  | 0, _, p => some p
  | f + 1, a, p => if p.1 / Nat.gcd a p.1 * ((p.2 + 1) / (a / Nat.gcd a p.1)) ≤ 9223372036854775807 then zo1 f (a + 1) (p.1 / Nat.gcd a p.1 * ((p.2 + 1) / (a / Nat.gcd a p.1)), p.2 + 1) else none
def zoa (n : Nat → Nat) : List Nat → Nat × Nat → Option (Nat × Nat)
  | [], p => some p
  | k :: l, p => match zo1 (n (7 + k)) 1 p with
    | none => none
    | some q => zoa n l q
def forders (S : zS) : Value × zS := match zoa S.n (zl (S.n 0) (S.n 1) 0) (1, 0) with
  | none => (.long zno, S)
  | some p => (.long (lN p.1), S)
/-- a cell is ahead of another -/
def zah (n : Nat → Nat) (a b : Nat) : Bool := decide (n (34 + b) * n (43 + a) < n (34 + a) * n (43 + b) ∨ (n (34 + a) * n (43 + b) = n (34 + b) * n (43 + a) ∧ a < b))
def zca (n : Nat → Nat) (b : Nat) : Nat := zlsum (fun a => if zah n a b then 1 else 0) (zl (n 0) (n 1) 0)
def zrk (n : Nat → Nat) (k : Int32) : List Nat → Int32
  | [] => -1
  | a :: l => if nI (zca n a) = k then nI (10 * (a / 3) + a % 3) else zrk n k l
def frank (S : zS) (k : Int32) : Value × zS := (.int (zrk S.n k (zl (S.n 0) (S.n 1) 0)), S)
/-- a row told by hand; m: where its many stands, o: the first of the list -/
noncomputable def flist (S : zS) (m o most : Nat) (i j v : Int32) : Value × zS := if i = -1 then (.int (nI 0), S.up (zset1 S.n m 0)) else match zC (S.n 0) (S.n 1) i j with
  | none => (.int (-1), S)
  | some k => match zR 60 v with
    | none => (.int (-2), S)
    | some x => if S.n m = most then (.int (-4), S) else (.int (nI (S.n m + 1)), S.up (zset1 (zset1 S.n (o + S.n m) (100 * k + x)) m (S.n m + 1)))
/-- the first listed row that is otherwise -/
def zfo1 (n w : Nat → Nat) (o : Nat) : Nat → Nat → Int32
  | 0, _ => -5
  | f + 1, k => if w (n (o + k) / 100) = n (o + k) % 100 then zfo1 n w o f (k + 1) else nI k
/-- were a count v, the counts the table, a round done -/
def zrb (n : Nat → Nat) (k v : Nat) : Option (Nat → Nat) := let n1 := ztk (zset1 n (7 + k) v); match zrd n1 with
  | none => zrnd n1 n1
  | some n2 => zrnd n2 n2
def zfi1 (n : Nat → Nat) (k v : Nat) : Bool := match zrb n k v with
  | none => false
  | some w => decide (zfo1 n w 52 (n 4) 0 = -5)
/-- from v on: how many, and the least -/
def zfi (n : Nat → Nat) (k : Nat) : Nat → Nat → Nat × Int32 → Nat × Int32
  | 0, _, p => p
  | f + 1, v, p => zfi n k f (v + 1) (if zfi1 n k v = true then (p.1 + 1, if p.1 = 0 then nI v else p.2) else p)
noncomputable def ffitting (S : zS) (i j w : Int32) : Value × zS := match zC (S.n 0) (S.n 1) i j, zR 1 w with
  | some k, some x => (.int (if x = 0 then nI (zfi S.n k 21 0 (0, -5)).1 else (zfi S.n k 21 0 (0, -5)).2), S)
  | _, _ => (.int (-1), S)
def zod1 (n : Nat → Nat) (k v : Nat) : Bool := match zrb n k v with
  | none => false
  | some w => decide (v ≤ w k)
def zod (n : Nat → Nat) (k : Nat) : Nat → Nat → Nat → Nat
  | 0, _, c => c
  | f + 1, v, c => zod n k f (v + 1) (if zod1 n k v = true then c + 1 else c)
noncomputable def fodds (S : zS) (i j p : Int32) : Value × zS := match zC (S.n 0) (S.n 1) i j with
  | none => (.long zno, S)
  | some k => (.long (zpt p (zred (zod S.n k 10 0 0) 10).1 (zred (zod S.n k 10 0 0) 10).2), S)
def fmean (S : zS) (p : Int32) : Value × zS := (.long (zpt p (zred (zlsum (fun k => S.n (7 + k)) (zl (S.n 0) (S.n 1) 0)) (S.n 0 * S.n 1)).1 (zred (zlsum (fun k => S.n (7 + k)) (zl (S.n 0) (S.n 1) 0)) (S.n 0 * S.n 1)).2), S)
/-- what an event may be: none; out of bounds; its two numbers -/
noncomputable def zev (n : Nat → Nat) (w v : Int32) : Int32 ⊕ (Nat × Nat) := zite (∃ a b, w = nI a ∧ v = nI b ∧ zevok n a b ∧ b ≤ 99) (.inr (zt w, zt v)) (if w = nI 3 then .inl (-2) else .inl (-1))
noncomputable def fevent (S : zS) (w v : Int32) : Value × zS := if w = -1 then (.int (nI 0), S.up (zset1 S.n 5 0)) else match zev S.n w v with
  | .inl x => (.int x, S)
  | .inr p => if S.n 5 = 8 then (.int (-4), S) else (.int (nI (S.n 5 + 1)), S.up (zset1 (zset1 S.n (57 + S.n 5) (100 * p.1 + p.2)) 5 (S.n 5 + 1)))
def zaf (n0 : Nat → Nat) : Nat → Nat → (Nat → Nat) → (Nat → Nat)
  | 0, _, n => n
  | f + 1, k, n => zaf n0 f (k + 1) (zhap n (n0 (57 + k) / 100) (n0 (57 + k) % 100))
noncomputable def fafter (S : zS) (w : Int32) : Value × zS := let n := zaf S.n (S.n 5) 0 S.n; (.long (if w = nI 0 then (if zall n 0 = zall n 1 ∧ zforb n = 0 then lN 1 else lN 0) else if w = nI 1 then lN (zforb n) else if w = nI 2 then (nI (zall n 0) - nI (zall n 1)).toInt64 else zno), S)
noncomputable def flooked (S : zS) : Value × zS := match zrnd S.n S.n with
  | none => (.int (-6), S)
  | some w => (.int (zfo1 S.n w 65 (S.n 6) 0), S)
/-- a tape looked through, from its place i on -/
def zjd (S : zS) (w : Nat → Nat) (t i : Nat) : Nat → List Nat → Int32
  | _, [] => -5
  | d, k :: l => if i + d < S.le t then (if S.it t (i + d) = lN (w k) then zjd S w t i (d + 1) l else nI d) else nI (100 + d)
noncomputable def zT (t : Int32) : Option Nat := zite (isT t) (some (zt t)) none
noncomputable def fjudge (S : zS) (t i : Int32) : Value × zS := match zT t with
  | none => (.int (-1), S)
  | some a => match zrnd S.n S.n with
    | none => (.int (-6), S)
    | some w => if S.so a = -1 then (.int (nI 100), S) else if S.so a = nI 2 then (if 0 ≤ i then (.int (zjd S w a (zt i) 0 (zl (S.n 0) (S.n 1) 0)), S) else (.int (nI 100), S)) else (.int (-12), S)
def fimage (S : zS) : Value × zS := (.int (nI (S.n 0 * S.n 1)), S.upG S.n)
def fundo (S : zS) : Value × zS := if S.t = 0 then (.int (-3), S) else (.int (nI (S.g 0 * S.g 1)), S.up S.g)
def fcount (S : zS) (w : Int32) : Value × zS := (.int (if w = nI 0 then nI (S.n 4) else if w = nI 1 then nI (S.n 5) else if w = nI 2 then nI (S.n 6) else if w = nI 3 then nI S.len else -2), S)
noncomputable def ftape (S : zS) (t s n : Int32) : Value × zS := match zT t with
  | none => (.int (-1), S)
  | some a => if s = -1 then (.int (nI 1), S.upQ (fun x => if x = a then -1 else S.so x) (zset1 S.le a 0) (fun x y => if x = a then lN 0 else S.it x y)) else if s < -1 ∨ nI 4 < s ∨ nI 60 < n then (.int (-2), S) else if n < 0 then (.int (-14), S) else (.int (nI 1), S.upQ (fun x => if x = a then s else S.so x) (zset1 S.le a (zt n)) (fun x y => if x = a then lN 0 else S.it x y))
noncomputable def zI0 (le : Nat) (i : Int32) : Option Nat := zite (∃ a, i = nI a ∧ a < le) (some (zt i)) none
noncomputable def fitem (S : zS) (t i : Int32) (v : Int64) : Value × zS := match zT t with
  | none => (.int (-1), S)
  | some a => if S.so a = -1 then (.int (-11), S) else match zI0 (S.le a) i with
    | none => (.int (-13), S)
    | some b => (.int (nI 1), S.upQ S.so S.le (fun x y => if x = a ∧ y = b then zcut (S.so a) v else S.it x y))
noncomputable def fpeek (S : zS) (t i : Int32) : Value × zS := match zT t with
  | none => (.long zno, S)
  | some a => match zI0 (S.le a) i with
    | none => (.long zno, S)
    | some b => (.long (S.it a b), S)
noncomputable def fshift (S : zS) (t i u j n : Int32) : Value × zS := match zT t, zT u with
  | some a, some b => if S.so a = -1 ∨ S.so b = -1 then (.int (-11), S) else if S.so a ≠ S.so b then (.int (-12), S) else zite (zits (S.le a) i n ∧ zits (S.le b) j n) (.int n, S.upQ S.so S.le (fun x y => if x = b ∧ zt j ≤ y ∧ y < zt j + zt n then S.it a (zt i + (y - zt j)) else S.it x y)) (.int (-13), S)
  | _, _ => (.int (-1), S)
