abbrev jKd : Type := Nat ⊕ Nat
abbrev jFC : Type := (Int × Int) ⊕ Option (Nat ⊕ Nat)
/-- what the fields of a class hold, in their order -/
def jFs : Nat → List jFC
  | 0 => [.inr (some (.inl 12)), .inl ((-2147483648), 2147483647), .inl ((-2147483648), 2147483647), .inr none, .inl ((-2147483648), 2147483647), .inl ((-2147483648), 2147483647), .inl ((-2147483648), 2147483647), .inl (0, 1), .inl (0, 1)]
  | 1 => [.inl (0, 120), .inr (some (.inl 6)), .inr (some (.inl 34)), .inr (some (.inl 35)), .inr (some (.inl 36)), .inl ((-2147483648), 2147483647), .inl (0, 120)]
  | 2 => [.inl ((-2147483648), 2147483647), .inl (0, 20), .inl ((-2147483648), 2147483647), .inr (some (.inl 2)), .inr (some (.inl 8)), .inr (some (.inl 1)), .inr (some (.inl 37)), .inr (some (.inl 38)), .inr (some (.inl 13)), .inr (some (.inl 9)), .inl (0, 20), .inl (0, 20), .inl ((-2147483648), 2147483647), .inl (0, 1)]
  | 3 => [.inl ((-2147483648), 2147483647), .inl (0, 6), .inl ((-2147483648), 2147483647), .inr (some (.inl 3)), .inr (some (.inl 10)), .inr (some (.inl 11)), .inl (0, 2147483647)]
  | 4 => [.inr (some (.inl 4)), .inl (0, 16), .inr (some (.inr 1)), .inr (some (.inl 7)), .inr (some (.inl 7)), .inr (some (.inl 5)), .inr (some (.inr 0))]
  | 5 => [.inl (0, 16), .inr (some (.inl 14)), .inr (some (.inl 15)), .inr (some (.inl 16)), .inr (some (.inl 17)), .inl (0, 120), .inr (some (.inl 18)), .inr (some (.inl 19)), .inr (some (.inl 20)), .inr (some (.inl 21)), .inr (some (.inl 22)), .inr (some (.inl 40)), .inr (some (.inl 23)), .inr (some (.inl 46)), .inr (some (.inl 24)), .inr (some (.inl 25)), .inr (some (.inl 41)), .inr (some (.inl 26)), .inr (some (.inl 27)), .inr (some (.inl 28)), .inr (some (.inl 42)), .inr (some (.inl 29)), .inl ((-2147483648), 2147483647), .inl (2, 6), .inl (2, 6), .inr (some (.inl 43)), .inl (0, 1), .inl (0, 1), .inl ((-2147483648), 2147483647), .inr (some (.inl 30)), .inr (some (.inl 44)), .inr (some (.inl 31)), .inr (some (.inl 32)), .inr (some (.inl 33))]
  | _ => []
/-- what the places of an array of a role hold -/
def jAc : Nat → jFC
  | 1 => .inr none
  | 2 => .inl (0, 1)
  | 3 => .inl ((-128), 127)
  | 4 => .inr (some (.inr 1))
  | 5 => .inr (some (.inr 2))
  | 6 => .inl ((-2147483648), 2147483647)
  | 7 => .inl ((-2147483648), 2147483647)
  | 8 => .inl ((-2147483648), 2147483647)
  | 9 => .inl ((-2147483648), 2147483647)
  | 10 => .inl ((-2147483648), 2147483647)
  | 11 => .inl ((-2147483648), 2147483647)
  | 12 => .inl ((-2147483648), 2147483647)
  | 13 => .inl ((-2147483648), 2147483647)
  | 14 => .inl (0, 3)
  | 15 => .inl (0, 60)
  | 16 => .inl ((-2147483648), 2147483647)
  | 17 => .inl ((-2147483648), 2147483647)
  | 18 => .inl ((-2147483648), 2147483647)
  | 19 => .inl ((-2147483648), 2147483647)
  | 20 => .inl ((-2147483648), 2147483647)
  | 21 => .inl ((-2147483648), 2147483647)
  | 22 => .inl ((-2147483648), 2147483647)
  | 23 => .inl ((-2147483648), 2147483647)
  | 24 => .inl ((-2147483648), 2147483647)
  | 25 => .inl ((-2147483648), 2147483647)
  | 26 => .inl ((-2147483648), 2147483647)
  | 27 => .inl ((-2147483648), 2147483647)
  | 28 => .inl ((-2147483648), 2147483647)
  | 29 => .inl (0, 9999)
  | 30 => .inl ((-2147483648), 2147483647)
  | 31 => .inl (0, 35)
  | 32 => .inl ((-1), 4)
  | 33 => .inl ((-1), 35)
  | 34 => .inl ((-2147483648), 2147483647)
  | 35 => .inl ((-2147483648), 2147483647)
  | 36 => .inl ((-2147483648), 2147483647)
  | 37 => .inl ((-2147483648), 2147483647)
  | 38 => .inl ((-2147483648), 2147483647)
  | 40 => .inl (0, 1)
  | 41 => .inl (0, 1)
  | 42 => .inl (0, 1)
  | 43 => .inl (0, 1)
  | 44 => .inl (0, 1)
  | 46 => .inr none
  | _ => .inl (-2147483648, 2147483647)
/-- how long the arrays of a role are, where that is fixed -/
def jAl : Nat → Option Nat
  | 1 => some 21
  | 4 => some 16
  | 5 => some 4
  | 7 => some 60
  | 8 => some 21
  | 9 => some 7
  | 11 => some 6
  | 12 => some 36
  | 13 => some 8
  | 14 => some 16
  | 15 => some 16
  | 16 => some 960
  | 17 => some 120
  | 18 => some 121
  | 19 => some 121
  | 20 => some 121
  | 21 => some 60
  | 22 => some 60
  | 23 => some 84
  | 24 => some 84
  | 25 => some 84
  | 26 => some 22
  | 27 => some 32
  | 28 => some 28
  | 29 => some 10000
  | 30 => some 36
  | 31 => some 37
  | 32 => some 37
  | 33 => some 36
  | 37 => some 21
  | 38 => some 21
  | 40 => some 84
  | 41 => some 79507
  | 42 => some 10000
  | 43 => some 36
  | 44 => some 36
  | 46 => some 84
  | _ => none
/-! SAFETY: a heap whose objects and arrays are of their kinds, numbers within their ranges; which kinds a method may change -/
/-- the kind of a content: an array's role, or a class's number -/
def jsh (e : jE) : jKd := match e with
  | .inl a => .inl a.1
  | .inr o => .inr o.1
def jis (V : jH) (k : jKd) (a : Nat) : Prop := ∃ e : jE, V a = some e ∧ jsh e = k
def jkeq : jKd → jKd → Bool
  | .inl a, .inl b => Nat.beq a b
  | .inr a, .inr b => Nat.beq a b
  | _, _ => false
def jmemB (k : jKd) (E : List jKd) : Bool := E.any (jkeq k)
def jsubB (E E' : List jKd) : Bool := E.all (fun k => jmemB k E')
theorem jkeq_iff {a b : jKd} : jkeq a b = true ↔ a = b := by
  cases a <;> cases b <;> simp [jkeq]
theorem jmemB_iff {k : jKd} {E : List jKd} : jmemB k E = true ↔ k ∈ E := by
  unfold jmemB
  rw [List.any_eq_true]
  exact ⟨fun ⟨x, h1, h2⟩ => jkeq_iff.mp h2 ▸ h1, fun h => ⟨k, h, jkeq_iff.mpr rfl⟩⟩
theorem jsub_of {E E' : List jKd} (h : jsubB E E' = true) : ∀ k ∈ E, k ∈ E' := fun k hk => jmemB_iff.mp (List.all_eq_true.mp h k hk)
theorem jnot_of {k : jKd} {E : List jKd} (h : jmemB k E = false) : k ∉ E := fun z => by rw [jmemB_iff.mpr z] at h; cases h
def jokV (V : jH) (c : jFC) (v : Value) : Prop := match c with
  | .inl r => ∃ x : Int32, v = .int x ∧ r.1 ≤ x.toInt ∧ x.toInt ≤ r.2
  | .inr none => ∃ x : Int64, v = .long x
  | .inr (some k) => ∃ a : Nat, v = .ref a ∧ jis V k a
def jokX (V : jH) (c : jFC) (n : Nat) (x : (Nat → Int32) ⊕ (Nat → Int64) ⊕ (Nat → UInt32) ⊕ (Nat → UInt64) ⊕ (Nat → Option Nat)) : Prop := match c with
  | .inl r => ∃ f : Nat → Int32, x = .inl f ∧ ∀ j, j < n → r.1 ≤ (f j).toInt ∧ (f j).toInt ≤ r.2
  | .inr none => ∃ f : Nat → Int64, x = .inr (.inl f)
  | .inr (some k) => ∃ f : Nat → Option Nat, x = .inr (.inr (.inr (.inr f))) ∧ ∀ (j a : Nat), j < n → f j = some a → jis V k a
def jokO (V : jH) (cs : List jFC) (fs : List Value) : Prop := fs.length = cs.length ∧ ∀ (k : Nat) (c : jFC), cs[k]? = some c → ∃ v : Value, fs[k]? = some v ∧ jokV V c v
def jok (V : jH) (e : jE) : Prop := match e with
  | .inl a => a.2.1 < 2 ^ 31 ∧ (∀ m, jAl a.1 = some m → a.2.1 = m) ∧ jokX V (jAc a.1) a.2.1 a.2.2
  | .inr o => jokO V (jFs o.1) o.2
def WTx (p : Nat → Prop) (V : jH) : Prop := ∀ (a : Nat) (e : jE), ¬ p a → V a = some e → jok V e
abbrev WT (V : jH) : Prop := WTx (fun _ => False) V
/-- what never changes: the kind, an array's length, a reference that a field holds -/
def jrel (e e' : jE) : Prop := match e, e' with
  | .inl a, .inl a' => a'.1 = a.1 ∧ a'.2.1 = a.2.1
  | .inr o, .inr o' => o'.1 = o.1 ∧ ∀ k b : Nat, o.2[k]? = some (.ref b) → o'.2[k]? = some (.ref b)
  | _, _ => False
theorem jrel.rf (e : jE) : jrel e e := by
  match e with
  | .inl a => exact ⟨rfl, rfl⟩
  | .inr o => exact ⟨rfl, fun _ _ h => h⟩
theorem jrel.sh {e e' : jE} (h : jrel e e') : jsh e' = jsh e := by
  match e, e', h with
  | .inl a, .inl a', h => exact congrArg Sum.inl h.1
  | .inr o, .inr o', h => exact congrArg Sum.inr h.1
theorem jrel.trans {e1 e2 e3 : jE} (h1 : jrel e1 e2) (h2 : jrel e2 e3) : jrel e1 e3 := by
  match e1, e2, e3, h1, h2 with
  | .inl a, .inl b, .inl c, h1, h2 => exact ⟨h2.1.trans h1.1, h2.2.trans h1.2⟩
  | .inr a, .inr b, .inr c, h1, h2 => exact ⟨h2.1.trans h1.1, fun k x h => h2.2 k x (h1.2 k x h)⟩
theorem jrel.arr {t n : Nat} {x x' : (Nat → Int32) ⊕ (Nat → Int64) ⊕ (Nat → UInt32) ⊕ (Nat → UInt64) ⊕ (Nat → Option Nat)} : jrel (.inl (t, n, x)) (.inl (t, n, x')) := ⟨rfl, rfl⟩
theorem jrel.obj {ci k : Nat} {fs : List Value} {v : Value} (h : ∀ b, fs[k]? ≠ some (.ref b)) : jrel (.inr (ci, fs)) (.inr (ci, fs.set k v)) := by
  refine ⟨rfl, fun j b hj => ?_⟩
  have hjk : k ≠ j := fun z => h b (z ▸ hj)
  show (fs.set k v)[j]? = _
  rw [List.getElem?_set_ne hjk]
  exact hj
def jext (V V' : jH) : Prop := ∀ (a : Nat) (e : jE), V a = some e → ∃ e' : jE, V' a = some e' ∧ jrel e e'
def jeff (E : List jKd) (V V' : jH) : Prop := jext V V' ∧ ∀ (a : Nat) (e : jE), V a = some e → jsh e ∉ E → V' a = some e
theorem jis.mono {V V' : jH} {k : jKd} {a : Nat} (h : jext V V') (hk : jis V k a) : jis V' k a := by
  obtain ⟨e, h1, h2⟩ := hk
  obtain ⟨e', h3, h4⟩ := h a e h1
  exact ⟨e', h3, h4.sh.trans h2⟩
theorem jokV.mono {V V' : jH} {c : jFC} {v : Value} (h : jext V V') (hk : jokV V c v) : jokV V' c v := by
  match c, hk with
  | .inl r, hk => exact hk
  | .inr none, hk => exact hk
  | .inr (some k), ⟨a, h1, h2⟩ => exact ⟨a, h1, h2.mono h⟩
theorem jokX.mono {V V' : jH} {c : jFC} {n : Nat} {x : (Nat → Int32) ⊕ (Nat → Int64) ⊕ (Nat → UInt32) ⊕ (Nat → UInt64) ⊕ (Nat → Option Nat)} (h : jext V V') (hk : jokX V c n x) : jokX V' c n x := by
  match c, hk with
  | .inl r, hk => exact hk
  | .inr none, hk => exact hk
  | .inr (some k), ⟨f, h1, h2⟩ => exact ⟨f, h1, fun j a hj hf => (h2 j a hj hf).mono h⟩
theorem jokO.mono {V V' : jH} {cs : List jFC} {fs : List Value} (h : jext V V') (hk : jokO V cs fs) : jokO V' cs fs := by
  refine ⟨hk.1, fun k c hc => ?_⟩
  obtain ⟨v, h1, h2⟩ := hk.2 k c hc
  exact ⟨v, h1, h2.mono h⟩
theorem jok.mono {V V' : jH} {e : jE} (h : jext V V') (hk : jok V e) : jok V' e := by
  match e, hk with
  | .inl a, hk => exact ⟨hk.1, hk.2.1, hk.2.2.mono h⟩
  | .inr o, hk => exact jokO.mono h hk
theorem jext.refl (V : jH) : jext V V := fun _ e h => ⟨e, h, jrel.rf e⟩
theorem jext.trans {V1 V2 V3 : jH} (h1 : jext V1 V2) (h2 : jext V2 V3) : jext V1 V3 := by
  intro a e h
  obtain ⟨e2, h3, h4⟩ := h1 a e h
  obtain ⟨e3, h5, h6⟩ := h2 a e2 h3
  exact ⟨e3, h5, h4.trans h6⟩
theorem jext.put {V : jH} {a : Nat} {e e' : jE} (h : V a = some e) (he : jrel e e') : jext V (jup V a e') := by
  intro b e2 h2
  by_cases hb : b = a
  · subst hb
    cases h.symm.trans h2
    exact ⟨e', jup_self, he⟩
  · exact ⟨e2, (jup_ne hb).trans h2, jrel.rf e2⟩
theorem jext.new {V : jH} {q : Nat} {e : jE} (h : V q = none) : jext V (jup V q e) := by
  intro b e2 h2
  refine ⟨e2, (jup_ne ?_).trans h2, jrel.rf e2⟩
  intro hb
  subst hb
  rw [h] at h2
  cases h2
theorem jeff.refl (E : List jKd) (V : jH) : jeff E V V := ⟨jext.refl V, fun _ _ h _ => h⟩
theorem jeff.trans {E : List jKd} {V1 V2 V3 : jH} (h1 : jeff E V1 V2) (h2 : jeff E V2 V3) : jeff E V1 V3 := ⟨h1.1.trans h2.1, fun a e h hn => h2.2 a e (h1.2 a e h hn) hn⟩
theorem jeff.sub {E E' : List jKd} {V1 V2 : jH} (h1 : jeff E V1 V2) (h : ∀ k ∈ E, k ∈ E') : jeff E' V1 V2 := ⟨h1.1, fun a e h2 hn => h1.2 a e h2 (fun q => hn (h _ q))⟩
theorem jeff.put {E : List jKd} {V : jH} {a : Nat} {e e' : jE} (h : V a = some e) (he : jrel e e') (hE : jsh e ∈ E) : jeff E V (jup V a e') := by
  refine ⟨jext.put h he, fun b e2 h2 hn => (jup_ne ?_).trans h2⟩
  intro hb
  subst hb
  cases h.symm.trans h2
  exact hn hE
theorem jeff.new {E : List jKd} {V : jH} {q : Nat} {e : jE} (h : V q = none) : jeff E V (jup V q e) := by
  refine ⟨jext.new h, fun b e2 h2 _ => (jup_ne ?_).trans h2⟩
  intro hb
  subst hb
  rw [h] at h2
  cases h2
theorem WTx.put {p : Nat → Prop} {V : jH} {a : Nat} {e e' : jE} (hW : WTx p V) (h : V a = some e) (he : jrel e e') (hk : ¬ p a → jok V e') : WTx p (jup V a e') := by
  intro b e2 hp h2
  have hx := jext.put h he
  by_cases hb : b = a
  · subst hb
    rw [jup_self] at h2
    cases h2
    exact (hk hp).mono hx
  · rw [jup_ne hb] at h2
    exact (hW b e2 hp h2).mono hx
theorem WTx.new {p : Nat → Prop} {V : jH} {q : Nat} {e : jE} (hW : WTx p V) (h : V q = none) (hk : ¬ p q → jok V e) : WTx p (jup V q e) := by
  intro b e2 hp h2
  have hx : jext V (jup V q e) := jext.new h
  by_cases hb : b = q
  · subst hb
    rw [jup_self] at h2
    cases h2
    exact (hk hp).mono hx
  · rw [jup_ne hb] at h2
    exact (hW b e2 hp h2).mono hx
/-- a new object, not yet built: it alone is left out -/
theorem WTx.out {V : jH} {q : Nat} (hW : WT V) (e : jE) (h : V q = none) : WTx (fun a => a = q) (jup V q e) := by
  intro b e2 hp h2
  rw [jup_ne hp] at h2
  exact (hW b e2 id h2).mono (jext.new h)
/-- what a fresh cell holds is nobody's else -/
theorem jext.none {V V' : jH} (h : jext V V') {q : Nat} (hq : V' q = none) : V q = none := by
  cases hv : V q with
  | none => rfl
  | some e =>
    obtain ⟨e', h1, -⟩ := h q e hv
    rw [hq] at h1
    cases h1
theorem jeff.fresh {E : List jKd} {V0 V V' : jH} {a : Nat} (h : jeff E V0 V) (ha : V0 a = none) (hx : ∀ b : Nat, b ≠ a → V' b = V b) : jeff E V0 V' := by
  have key : ∀ (b : Nat) (e : jE), V0 b = some e → V' b = V b := fun b e hb => hx b (fun z => by rw [z, ha] at hb; cases hb)
  refine ⟨fun b e hb => ?_, fun b e hb hn => (key b e hb).trans (h.2 b e hb hn)⟩
  obtain ⟨e', h1, h2⟩ := h.1 b e hb
  exact ⟨e', (key b e hb).trans h1, h2⟩
theorem jext.ref {V V' : jH} (h : jext V V') {a ci k b : Nat} {fs : List Value} (hV : V a = some (.inr (ci, fs))) (hk : fs[k]? = some (.ref b)) : ∃ fs' : List Value, V' a = some (.inr (ci, fs')) ∧ fs'[k]? = some (.ref b) := by
  obtain ⟨e', h1, h2⟩ := h a _ hV
  match e', h1, h2 with
  | .inr (c, fs'), h1, h2 =>
    have h3 : c = ci := h2.1
    subst h3
    exact ⟨fs', h1, h2.2 k b hk⟩
theorem WTx.all {V : jH} {q : Nat} {e : jE} (hW : WTx (fun a => a = q) V) (h : V q = some e) (hk : jok V e) : WT V := by
  intro b e2 _ h2
  by_cases hb : b = q
  · subst hb
    cases h.symm.trans h2
    exact hk
  · exact hW b e2 hb h2
theorem jis_obj {V : jH} {ci a : Nat} (h : jis V (.inr ci) a) : ∃ fs : List Value, V a = some (.inr (ci, fs)) := by
  obtain ⟨e, h1, h2⟩ := h
  match e, h1, h2 with
  | .inl x, h1, h2 => cases h2
  | .inr (c, fs), h1, h2 => cases h2; exact ⟨fs, h1⟩
theorem jis_arr {V : jH} {t a : Nat} (h : jis V (.inl t) a) : ∃ x : vp_A, V a = some (.inl (t, x)) := by
  obtain ⟨e, h1, h2⟩ := h
  match e, h1, h2 with
  | .inl (c, x), h1, h2 => cases h2; exact ⟨x, h1⟩
  | .inr x, h1, h2 => cases h2
/-- an object in a safe heap, its fields -/
theorem WT_obj {p : Nat → Prop} {V : jH} {ci a : Nat} (hW : WTx p V) (hp : ¬ p a) (h : jis V (.inr ci) a) : ∃ fs : List Value, V a = some (.inr (ci, fs)) ∧ jokO V (jFs ci) fs := by
  obtain ⟨fs, h1⟩ := jis_obj h
  exact ⟨fs, h1, hW a _ hp h1⟩
/-- an int array in a safe heap -/
theorem WT_arrI {p : Nat → Prop} {V : jH} {t a : Nat} {r : Int × Int} (hW : WTx p V) (hp : ¬ p a) (hc : jAc t = .inl r) (h : jis V (.inl t) a) : ∃ (n : Nat) (f : Nat → Int32), V a = some (.inl (t, n, .inl f)) ∧ n < 2 ^ 31 ∧ (∀ m, jAl t = some m → n = m) ∧ ∀ j, j < n → r.1 ≤ (f j).toInt ∧ (f j).toInt ≤ r.2 := by
  obtain ⟨⟨n, x⟩, h1⟩ := jis_arr h
  obtain ⟨h2, h3, h4⟩ := hW a _ hp h1
  dsimp only at h2 h3 h4
  rw [hc] at h4
  obtain ⟨f, rfl, h5⟩ := h4
  exact ⟨n, f, h1, h2, h3, h5⟩
theorem WT_arrL {p : Nat → Prop} {V : jH} {t a : Nat} (hW : WTx p V) (hp : ¬ p a) (hc : jAc t = .inr none) (h : jis V (.inl t) a) : ∃ (n : Nat) (f : Nat → Int64), V a = some (.inl (t, n, .inr (.inl f))) ∧ n < 2 ^ 31 ∧ ∀ m, jAl t = some m → n = m := by
  obtain ⟨⟨n, x⟩, h1⟩ := jis_arr h
  obtain ⟨h2, h3, h4⟩ := hW a _ hp h1
  dsimp only at h2 h3 h4
  rw [hc] at h4
  obtain ⟨f, rfl⟩ := h4
  exact ⟨n, f, h1, h2, h3⟩
theorem WT_arrR {p : Nat → Prop} {V : jH} {t a : Nat} {k : jKd} (hW : WTx p V) (hp : ¬ p a) (hc : jAc t = .inr (some k)) (h : jis V (.inl t) a) : ∃ (n : Nat) (f : Nat → Option Nat), V a = some (.inl (t, n, .inr (.inr (.inr (.inr f))))) ∧ n < 2 ^ 31 ∧ (∀ m, jAl t = some m → n = m) ∧ ∀ (j b : Nat), j < n → f j = some b → jis V k b := by
  obtain ⟨⟨n, x⟩, h1⟩ := jis_arr h
  obtain ⟨h2, h3, h4⟩ := hW a _ hp h1
  dsimp only at h2 h3 h4
  rw [hc] at h4
  obtain ⟨f, rfl, h5⟩ := h4
  exact ⟨n, f, h1, h2, h3, h5⟩
/-! numbers -/
theorem jle {x y : Int32} : x ≤ y ↔ x.toInt ≤ y.toInt := Int32.le_iff_toInt_le
theorem jlt {x y : Int32} : x < y ↔ x.toInt < y.toInt := Int32.lt_iff_toInt_lt
theorem jn_len {n : Nat} (h : n < 2 ^ 31) : (Int32.ofNat n).toInt = (n : Int) := nI_toInt h
theorem vp_in_g {i : Int32} {n : Nat} (h1 : ¬ i < 0) (h2 : ¬ Int32.ofNat n ≤ i) (hn : n < 2 ^ 31) : vp_in i n := by
  rw [vp_in_iff]
  rw [jlt, Int32.toInt_zero] at h1
  rw [jle, jn_len hn] at h2
  omega
theorem vp_in_n {i : Int32} {n : Nat} (h1 : 0 ≤ i.toInt) (h2 : i.toInt < (n : Int)) : vp_in i n := vp_in_iff.mpr ⟨h1, h2⟩
theorem vp_in_g1 {i : Int32} {n : Nat} (h1 : ¬ i < 0) (h2 : i < Int32.ofNat n) (hn : n < 2 ^ 31) : vp_in i n := vp_in_g h1 (fun h => by rw [jlt] at h2; rw [jle] at h; omega) hn
theorem vp_in_g2 {i : Int32} {n : Nat} (h1 : 0 ≤ i.toInt) (h2 : ¬ Int32.ofNat n ≤ i) (hn : n < 2 ^ 31) : vp_in i n := vp_in_g (fun h => by rw [jlt, Int32.toInt_zero] at h; omega) h2 hn
theorem vp_in_g3 {i : Int32} {n : Nat} (h1 : 0 ≤ i.toInt) (h2 : i < Int32.ofNat n) (hn : n < 2 ^ 31) : vp_in i n := vp_in_g1 (fun h => by rw [jlt, Int32.toInt_zero] at h; omega) h2 hn
theorem j_rng (x : Int32) : -2147483648 ≤ x.toInt ∧ x.toInt ≤ 2147483647 := ⟨Int32.le_toInt x, by have := Int32.toInt_lt x; omega⟩
theorem j_add {x y : Int32} (h1 : -2147483648 ≤ x.toInt + y.toInt) (h2 : x.toInt + y.toInt ≤ 2147483647) : (x + y).toInt = x.toInt + y.toInt := by
  rw [Int32.toInt_add, Int.bmod_eq_of_le (by omega) (by omega)]
theorem j_sub {x y : Int32} (h1 : -2147483648 ≤ x.toInt - y.toInt) (h2 : x.toInt - y.toInt ≤ 2147483647) : (x - y).toInt = x.toInt - y.toInt := by
  rw [Int32.toInt_sub, Int.bmod_eq_of_le (by omega) (by omega)]
theorem j_mul {x y : Int32} (h1 : -2147483648 ≤ x.toInt * y.toInt) (h2 : x.toInt * y.toInt ≤ 2147483647) : (x * y).toInt = x.toInt * y.toInt := by
  rw [Int32.toInt_mul, Int.bmod_eq_of_le (by omega) (by omega)]
theorem j_inc1 {x : Int32} : x + Int32.ofInt 1 = x + 1 := rfl
theorem j_incm1 {x : Int32} : x + Int32.ofInt (-1) = x + (-1) := rfl
theorem j_inc4 {x : Int32} : x + Int32.ofInt 4 = x + 4 := rfl
/-- measures of loops that count up below a bound, and down to one -/
theorem jm_up {i b : Int32} (h : i < b) : (i + 1).toInt = i.toInt + 1 := by
  have h1 := j_rng b
  have h2 := j_rng i
  rw [jlt] at h
  exact j_add (y := 1) (by show _ ≤ i.toInt + 1; omega) (by show i.toInt + 1 ≤ _; omega)
theorem jm_dn {i b : Int32} (h : b ≤ i) (hb : -2147483648 < b.toInt) : (i + (-1)).toInt = i.toInt - 1 := by
  have h2 := j_rng i
  rw [jle] at h
  have := j_add (x := i) (y := -1) (by show _ ≤ i.toInt + (-1); omega) (by show i.toInt + (-1) ≤ _; omega)
  rw [this]
  show i.toInt + (-1) = _
  omega
theorem jm_dn0 {i : Int32} (h : ¬ i < 0) : (i + (-1)).toInt = i.toInt - 1 := jm_dn (b := 0) (Int32.not_lt.mp h) (by rw [Int32.toInt_zero]; omega)
theorem j_add1 {x : Int32} (h : x.toInt ≤ 2147483646) : (x + 1).toInt = x.toInt + 1 := by
  have h2 := j_rng x
  exact j_add (y := 1) (by show _ ≤ x.toInt + 1; omega) (by show x.toInt + 1 ≤ _; omega)
theorem jm_le {i b : Int32} (h : ¬ b < i) (hb : b.toInt ≤ 2147483646) : (i + 1).toInt = i.toInt + 1 := by
  rw [jlt] at h
  exact j_add1 (by omega)
theorem jdec_dn {i : Int32} {N : Nat} (c : ¬ i < 0) (hm : (i.toInt + 2147483648).toNat < N + 1) : ((i + (-1)).toInt + 2147483648).toNat < N := by
  have h8 := j_rng i
  have h9 := jm_dn0 c
  rw [jlt, Int32.toInt_zero] at c
  omega
theorem jdec_up {i b : Int32} {N : Nat} (c : i < b) (hm : (2147483648 - i.toInt).toNat < N + 1) : (2147483648 - (i + 1).toInt).toNat < N := by
  have h8 := j_rng i
  have h9 := jm_up c
  omega
theorem jne0 {y : Int32} (h : (1 : Int32) ≤ y) : ¬ y = 0 := by
  intro h2
  subst h2
  exact absurd h (by decide)
theorem jdrop {s n : Int32} (h1 : 0 ≤ s.toInt) (h2 : s.toInt ≤ 120) : 0 ≤ (if (0 : Int32) < s - (if (0 : Int32) < n then n else 0) then s - (if (0 : Int32) < n then n else 0) else 0).toInt ∧ (if (0 : Int32) < s - (if (0 : Int32) < n then n else 0) then s - (if (0 : Int32) < n then n else 0) else 0).toInt ≤ 120 := by
  have hz : (0 : Int32).toInt = 0 := rfl
  have hm : 0 ≤ (if (0 : Int32) < n then n else 0).toInt := by
    split
    · rename_i h
      have := jlt.mp h
      omega
    · omega
  generalize (if (0 : Int32) < n then n else 0) = m at hm ⊢
  have h3 := j_rng m
  have h4 := j_sub (x := s) (y := m) (by omega) (by omega)
  split
  · rename_i h
    have := jlt.mp h
    omega
  · omega
theorem jdrop_lo {s n : Int32} (h1 : 0 ≤ s.toInt) (h2 : s.toInt ≤ 120) : 0 ≤ (if (0 : Int32) < s - (if (0 : Int32) < n then n else 0) then s - (if (0 : Int32) < n then n else 0) else 0).toInt := (jdrop h1 h2).1
theorem jdrop_hi {s n : Int32} (h1 : 0 ≤ s.toInt) (h2 : s.toInt ≤ 120) : (if (0 : Int32) < s - (if (0 : Int32) < n then n else 0) then s - (if (0 : Int32) < n then n else 0) else 0).toInt ≤ 120 := (jdrop h1 h2).2
theorem jsw2 (x : Int32) : x = 0 ∨ x = 1 ∨ x = 2 ∨ x.toInt < 0 ∨ 2 < x.toInt := by
  by_cases h0 : x.toInt < 0
  · exact Or.inr (Or.inr (Or.inr (Or.inl h0)))
  by_cases h1 : 2 < x.toInt
  · exact Or.inr (Or.inr (Or.inr (Or.inr h1)))
  rcases (show x.toInt = 0 ∨ x.toInt = 1 ∨ x.toInt = 2 by omega) with h | h | h
  · exact Or.inl (Int32.toInt_inj.mp (by rw [h]; rfl))
  · exact Or.inr (Or.inl (Int32.toInt_inj.mp (by rw [h]; rfl)))
  · exact Or.inr (Or.inr (Or.inl (Int32.toInt_inj.mp (by rw [h]; rfl))))
theorem jsw3 (x : Int32) : x = 0 ∨ x = 1 ∨ x = 2 ∨ x = 3 ∨ x.toInt < 0 ∨ 3 < x.toInt := by
  by_cases h0 : x.toInt < 0
  · exact Or.inr (Or.inr (Or.inr (Or.inr (Or.inl h0))))
  by_cases h1 : 3 < x.toInt
  · exact Or.inr (Or.inr (Or.inr (Or.inr (Or.inr h1))))
  rcases (show x.toInt = 0 ∨ x.toInt = 1 ∨ x.toInt = 2 ∨ x.toInt = 3 by omega) with h | h | h | h
  · exact Or.inl (Int32.toInt_inj.mp (by rw [h]; rfl))
  · exact Or.inr (Or.inl (Int32.toInt_inj.mp (by rw [h]; rfl)))
  · exact Or.inr (Or.inr (Or.inl (Int32.toInt_inj.mp (by rw [h]; rfl))))
  · exact Or.inr (Or.inr (Or.inr (Or.inl (Int32.toInt_inj.mp (by rw [h]; rfl)))))
theorem jsw7 (x : Int32) : x = 0 ∨ x = 1 ∨ x = 2 ∨ x = 3 ∨ x = 4 ∨ x = 5 ∨ x = 6 ∨ x = 7 ∨ x.toInt < 0 ∨ 7 < x.toInt := by
  by_cases h0 : x.toInt < 0
  · exact Or.inr (Or.inr (Or.inr (Or.inr (Or.inr (Or.inr (Or.inr (Or.inr (Or.inl h0))))))))
  by_cases h1 : 7 < x.toInt
  · exact Or.inr (Or.inr (Or.inr (Or.inr (Or.inr (Or.inr (Or.inr (Or.inr (Or.inr h1))))))))
  rcases (show x.toInt = 0 ∨ x.toInt = 1 ∨ x.toInt = 2 ∨ x.toInt = 3 ∨ x.toInt = 4 ∨ x.toInt = 5 ∨ x.toInt = 6 ∨ x.toInt = 7 by omega) with h | h | h | h | h | h | h | h
  · exact Or.inl (Int32.toInt_inj.mp (by rw [h]; rfl))
  · exact Or.inr (Or.inl (Int32.toInt_inj.mp (by rw [h]; rfl)))
  · exact Or.inr (Or.inr (Or.inl (Int32.toInt_inj.mp (by rw [h]; rfl))))
  · exact Or.inr (Or.inr (Or.inr (Or.inl (Int32.toInt_inj.mp (by rw [h]; rfl)))))
  · exact Or.inr (Or.inr (Or.inr (Or.inr (Or.inl (Int32.toInt_inj.mp (by rw [h]; rfl))))))
  · exact Or.inr (Or.inr (Or.inr (Or.inr (Or.inr (Or.inl (Int32.toInt_inj.mp (by rw [h]; rfl)))))))
  · exact Or.inr (Or.inr (Or.inr (Or.inr (Or.inr (Or.inr (Or.inl (Int32.toInt_inj.mp (by rw [h]; rfl))))))))
  · exact Or.inr (Or.inr (Or.inr (Or.inr (Or.inr (Or.inr (Or.inr (Or.inl (Int32.toInt_inj.mp (by rw [h]; rfl)))))))))
theorem jsw23 (x : Int32) : x = 0 ∨ x = 1 ∨ x = 2 ∨ x = 3 ∨ x = 4 ∨ x = 5 ∨ x = 6 ∨ x = 7 ∨ x = 8 ∨ x = 9 ∨ x = 10 ∨ x = 11 ∨ x = 12 ∨ x = 13 ∨ x = 14 ∨ x = 15 ∨ x = 16 ∨ x = 17 ∨ x = 18 ∨ x = 19 ∨ x = 20 ∨ x = 21 ∨ x = 22 ∨ x = 23 ∨ x.toInt < 0 ∨ 23 < x.toInt := by
  by_cases h0 : x.toInt < 0
  · exact Or.inr (Or.inr (Or.inr (Or.inr (Or.inr (Or.inr (Or.inr (Or.inr (Or.inr (Or.inr (Or.inr (Or.inr (Or.inr (Or.inr (Or.inr (Or.inr (Or.inr (Or.inr (Or.inr (Or.inr (Or.inr (Or.inr (Or.inr (Or.inr (Or.inl h0))))))))))))))))))))))))
  by_cases h1 : 23 < x.toInt
  · exact Or.inr (Or.inr (Or.inr (Or.inr (Or.inr (Or.inr (Or.inr (Or.inr (Or.inr (Or.inr (Or.inr (Or.inr (Or.inr (Or.inr (Or.inr (Or.inr (Or.inr (Or.inr (Or.inr (Or.inr (Or.inr (Or.inr (Or.inr (Or.inr (Or.inr h1))))))))))))))))))))))))
  rcases (show x.toInt = 0 ∨ x.toInt = 1 ∨ x.toInt = 2 ∨ x.toInt = 3 ∨ x.toInt = 4 ∨ x.toInt = 5 ∨ x.toInt = 6 ∨ x.toInt = 7 ∨ x.toInt = 8 ∨ x.toInt = 9 ∨ x.toInt = 10 ∨ x.toInt = 11 ∨ x.toInt = 12 ∨ x.toInt = 13 ∨ x.toInt = 14 ∨ x.toInt = 15 ∨ x.toInt = 16 ∨ x.toInt = 17 ∨ x.toInt = 18 ∨ x.toInt = 19 ∨ x.toInt = 20 ∨ x.toInt = 21 ∨ x.toInt = 22 ∨ x.toInt = 23 by omega) with h | h | h | h | h | h | h | h | h | h | h | h | h | h | h | h | h | h | h | h | h | h | h | h
  · exact Or.inl (Int32.toInt_inj.mp (by rw [h]; rfl))
  · exact Or.inr (Or.inl (Int32.toInt_inj.mp (by rw [h]; rfl)))
  · exact Or.inr (Or.inr (Or.inl (Int32.toInt_inj.mp (by rw [h]; rfl))))
  · exact Or.inr (Or.inr (Or.inr (Or.inl (Int32.toInt_inj.mp (by rw [h]; rfl)))))
  · exact Or.inr (Or.inr (Or.inr (Or.inr (Or.inl (Int32.toInt_inj.mp (by rw [h]; rfl))))))
  · exact Or.inr (Or.inr (Or.inr (Or.inr (Or.inr (Or.inl (Int32.toInt_inj.mp (by rw [h]; rfl)))))))
  · exact Or.inr (Or.inr (Or.inr (Or.inr (Or.inr (Or.inr (Or.inl (Int32.toInt_inj.mp (by rw [h]; rfl))))))))
  · exact Or.inr (Or.inr (Or.inr (Or.inr (Or.inr (Or.inr (Or.inr (Or.inl (Int32.toInt_inj.mp (by rw [h]; rfl)))))))))
  · exact Or.inr (Or.inr (Or.inr (Or.inr (Or.inr (Or.inr (Or.inr (Or.inr (Or.inl (Int32.toInt_inj.mp (by rw [h]; rfl))))))))))
  · exact Or.inr (Or.inr (Or.inr (Or.inr (Or.inr (Or.inr (Or.inr (Or.inr (Or.inr (Or.inl (Int32.toInt_inj.mp (by rw [h]; rfl)))))))))))
  · exact Or.inr (Or.inr (Or.inr (Or.inr (Or.inr (Or.inr (Or.inr (Or.inr (Or.inr (Or.inr (Or.inl (Int32.toInt_inj.mp (by rw [h]; rfl))))))))))))
  · exact Or.inr (Or.inr (Or.inr (Or.inr (Or.inr (Or.inr (Or.inr (Or.inr (Or.inr (Or.inr (Or.inr (Or.inl (Int32.toInt_inj.mp (by rw [h]; rfl)))))))))))))
  · exact Or.inr (Or.inr (Or.inr (Or.inr (Or.inr (Or.inr (Or.inr (Or.inr (Or.inr (Or.inr (Or.inr (Or.inr (Or.inl (Int32.toInt_inj.mp (by rw [h]; rfl))))))))))))))
  · exact Or.inr (Or.inr (Or.inr (Or.inr (Or.inr (Or.inr (Or.inr (Or.inr (Or.inr (Or.inr (Or.inr (Or.inr (Or.inr (Or.inl (Int32.toInt_inj.mp (by rw [h]; rfl)))))))))))))))
  · exact Or.inr (Or.inr (Or.inr (Or.inr (Or.inr (Or.inr (Or.inr (Or.inr (Or.inr (Or.inr (Or.inr (Or.inr (Or.inr (Or.inr (Or.inl (Int32.toInt_inj.mp (by rw [h]; rfl))))))))))))))))
  · exact Or.inr (Or.inr (Or.inr (Or.inr (Or.inr (Or.inr (Or.inr (Or.inr (Or.inr (Or.inr (Or.inr (Or.inr (Or.inr (Or.inr (Or.inr (Or.inl (Int32.toInt_inj.mp (by rw [h]; rfl)))))))))))))))))
  · exact Or.inr (Or.inr (Or.inr (Or.inr (Or.inr (Or.inr (Or.inr (Or.inr (Or.inr (Or.inr (Or.inr (Or.inr (Or.inr (Or.inr (Or.inr (Or.inr (Or.inl (Int32.toInt_inj.mp (by rw [h]; rfl))))))))))))))))))
  · exact Or.inr (Or.inr (Or.inr (Or.inr (Or.inr (Or.inr (Or.inr (Or.inr (Or.inr (Or.inr (Or.inr (Or.inr (Or.inr (Or.inr (Or.inr (Or.inr (Or.inr (Or.inl (Int32.toInt_inj.mp (by rw [h]; rfl)))))))))))))))))))
  · exact Or.inr (Or.inr (Or.inr (Or.inr (Or.inr (Or.inr (Or.inr (Or.inr (Or.inr (Or.inr (Or.inr (Or.inr (Or.inr (Or.inr (Or.inr (Or.inr (Or.inr (Or.inr (Or.inl (Int32.toInt_inj.mp (by rw [h]; rfl))))))))))))))))))))
  · exact Or.inr (Or.inr (Or.inr (Or.inr (Or.inr (Or.inr (Or.inr (Or.inr (Or.inr (Or.inr (Or.inr (Or.inr (Or.inr (Or.inr (Or.inr (Or.inr (Or.inr (Or.inr (Or.inr (Or.inl (Int32.toInt_inj.mp (by rw [h]; rfl)))))))))))))))))))))
  · exact Or.inr (Or.inr (Or.inr (Or.inr (Or.inr (Or.inr (Or.inr (Or.inr (Or.inr (Or.inr (Or.inr (Or.inr (Or.inr (Or.inr (Or.inr (Or.inr (Or.inr (Or.inr (Or.inr (Or.inr (Or.inl (Int32.toInt_inj.mp (by rw [h]; rfl))))))))))))))))))))))
  · exact Or.inr (Or.inr (Or.inr (Or.inr (Or.inr (Or.inr (Or.inr (Or.inr (Or.inr (Or.inr (Or.inr (Or.inr (Or.inr (Or.inr (Or.inr (Or.inr (Or.inr (Or.inr (Or.inr (Or.inr (Or.inr (Or.inl (Int32.toInt_inj.mp (by rw [h]; rfl)))))))))))))))))))))))
  · exact Or.inr (Or.inr (Or.inr (Or.inr (Or.inr (Or.inr (Or.inr (Or.inr (Or.inr (Or.inr (Or.inr (Or.inr (Or.inr (Or.inr (Or.inr (Or.inr (Or.inr (Or.inr (Or.inr (Or.inr (Or.inr (Or.inr (Or.inl (Int32.toInt_inj.mp (by rw [h]; rfl))))))))))))))))))))))))
  · exact Or.inr (Or.inr (Or.inr (Or.inr (Or.inr (Or.inr (Or.inr (Or.inr (Or.inr (Or.inr (Or.inr (Or.inr (Or.inr (Or.inr (Or.inr (Or.inr (Or.inr (Or.inr (Or.inr (Or.inr (Or.inr (Or.inr (Or.inr (Or.inl (Int32.toInt_inj.mp (by rw [h]; rfl)))))))))))))))))))))))))
theorem jmm {x : Int32} (B : Int32) (hB : 0 ≤ B.toInt) : 0 ≤ (if (0 : Int32) < (if B < x then B else x) then (if B < x then B else x) else 0).toInt ∧ (if (0 : Int32) < (if B < x then B else x) then (if B < x then B else x) else 0).toInt ≤ B.toInt := by
  have hz : (0 : Int32).toInt = 0 := rfl
  have h1 : (if B < x then B else x).toInt ≤ B.toInt := by
    split
    · omega
    · rename_i h
      rw [jlt] at h
      omega
  generalize (if B < x then B else x) = m at h1 ⊢
  split
  · rename_i h
    rw [jlt] at h
    omega
  · omega
abbrev jmost (x : Int32) : Int32 := if (0 : Int32) < (if (120 : Int32) < x then 120 else x) then (if (120 : Int32) < x then 120 else x) else 0
theorem jmost_lo (x : Int32) : 0 ≤ (jmost x).toInt := (jmm (x := x) 120 (by decide)).1
theorem jmost_hi0 (x : Int32) : (jmost x).toInt ≤ 120 := (jmm (x := x) 120 (by decide)).2
theorem jmost_hi (x : Int32) : (jmost x).toInt ≤ ((121 : Nat) : Int) := by have := jmost_hi0 x; omega
theorem jmost1_lo (x : Int32) : 0 ≤ (jmost x + 1).toInt := by have h1 := jmost_hi0 x; have h2 := jmost_lo x; rw [j_add1 (by omega)]; omega
theorem jmost1_hi (x : Int32) : (jmost x + 1).toInt ≤ ((121 : Nat) : Int) := by have h1 := jmost_hi0 x; have h2 := jmost_lo x; rw [j_add1 (by omega)]; omega
abbrev jroom (x : Int32) : Int32 := if (0 : Int32) < (if (10000 : Int32) < x then 10000 else x) then (if (10000 : Int32) < x then 10000 else x) else 0
theorem jroom_lo (x : Int32) : 0 ≤ (jroom x).toInt := (jmm (x := x) 10000 (by decide)).1
theorem jroom_hi (x : Int32) : (jroom x).toInt ≤ ((10000 : Nat) : Int) := (jmm (x := x) 10000 (by decide)).2
abbrev jst (x : Int32) : Int32 := if (0 : Int32) < (if (6 : Int32) < x then 6 else x) then (if (6 : Int32) < x then 6 else x) else 0
theorem jst_lo (x : Int32) : 0 ≤ (jst x).toInt := (jmm (x := x) 6 (by decide)).1
theorem jst_hi (x : Int32) : (jst x).toInt ≤ 6 := (jmm (x := x) 6 (by decide)).2
