theorem jI_inj {x y : Int32} : x.toInt = y.toInt ↔ x = y := Int32.toInt_inj
theorem jI_zero {x : Int32} : x = 0 ↔ x.toInt = 0 := ⟨fun h => by rw [h]; rfl, fun h => Int32.toInt_inj.mp (by rw [h]; rfl)⟩
/-- hidden from arithmetic until it is asked for -/
def jEq (a b : Int) : Prop := a = b
theorem jEq.eq {a b : Int} (h : jEq a b) : a = b := h
theorem jEq.rf {a : Int} : jEq a a := rfl
def jIf (y : Int32) (c : Int) (P : Prop) : Prop := y.toInt = c → P
def jImp (P R : Prop) : Prop := P → R
theorem jIf.of {y : Int32} {c : Int} {P : Prop} (h : jIf y c P) (h2 : y.toInt = c) : P := h h2
theorem jImp.of {P R : Prop} (h : jImp P R) (h2 : P) : R := h h2
def jfL (V : jH) (a ci k : Nat) (y : Int64) : Prop := ∃ fs : List Value, V a = some (.inr (ci, fs)) ∧ fs[k]? = some (.long y)
theorem jfL.get {V : jH} {a ci k : Nat} {y : Int64} {fs : List Value} (h : jfL V a ci k y) (hO : V a = some (.inr (ci, fs))) : fs[k]? = some (.long y) := by
  obtain ⟨fs2, h1, h2⟩ := h
  cases h1.symm.trans hO
  exact h2
theorem jfL.keep {E : List jKd} {V V' : jH} {a ci k : Nat} {y : Int64} (h : jfL V a ci k y) (he : jeff E V V') (hn : (.inr ci : jKd) ∉ E) : jfL V' a ci k y := by
  obtain ⟨fs, h1, h2⟩ := h
  exact ⟨fs, he.2 _ _ h1 hn, h2⟩
theorem jfI.get {V : jH} {a ci k : Nat} {y : Int32} {fs : List Value} (h : jfI V a ci k y) (hO : V a = some (.inr (ci, fs))) : fs[k]? = some (.int y) := by
  obtain ⟨fs2, h1, h2⟩ := h
  cases h1.symm.trans hO
  exact h2
theorem jfR.get {V : jH} {a ci k : Nat} {b : Nat} {fs : List Value} (h : jfR V a ci k b) (hO : V a = some (.inr (ci, fs))) : fs[k]? = some (.ref b) := by
  obtain ⟨fs2, h1, h2⟩ := h
  cases h1.symm.trans hO
  exact h2
theorem jext.keep {V V' : jH} (h : jext V V') {a ci : Nat} {fs : List Value} (hV : V a = some (.inr (ci, fs))) : ∃ fs' : List Value, V' a = some (.inr (ci, fs')) ∧ ∀ k b : Nat, fs[k]? = some (.ref b) → fs'[k]? = some (.ref b) := by
  obtain ⟨e', h1, h2⟩ := h a _ hV
  match e', h1, h2 with
  | .inr (c, fs'), h1, h2 =>
    have h3 : c = ci := h2.1
    subst h3
    exact ⟨fs', h1, h2.2⟩
theorem WT_rngI {p : Nat → Prop} {V : jH} {t a n : Nat} {f : Nat → Int32} {r : Int × Int} (hW : WTx p V) (hp : ¬ p a) (hc : jAc t = .inl r) (hA : V a = some (.inl (t, n, .inl f))) : n < 2 ^ 31 ∧ ∀ j, j < n → r.1 ≤ (f j).toInt ∧ (f j).toInt ≤ r.2 := by
  obtain ⟨n2, f2, h1, h2, h3, h4⟩ := WT_arrI hW hp hc ⟨_, hA, rfl⟩
  cases hA.symm.trans h1
  exact ⟨h2, h4⟩
theorem jz_div {x y : Int32} (hx : 0 ≤ x.toInt) (hy : 0 < y.toInt) : (x / y).toInt = x.toInt / y.toInt := by
  have h1 := j_rng x
  have h2 := j_rng y
  have h3 : x.toInt / y.toInt ≤ x.toInt := Int.ediv_le_self _ hx
  have h4 : 0 ≤ x.toInt / y.toInt := Int.ediv_nonneg hx (by omega)
  rw [Int32.toInt_div, Int.tdiv_eq_ediv_of_nonneg hx, Int.bmod_eq_of_le (by omega) (by omega)]
theorem jz_rem {x y : Int32} (hx : 0 ≤ x.toInt) (hy : 0 < y.toInt) : (x - x / y * y).toInt = x.toInt % y.toInt := by
  have h1 := jz_div hx hy
  have h2 := Int.emod_def x.toInt y.toInt
  have h3 := Int.emod_nonneg x.toInt (show y.toInt ≠ 0 by omega)
  have h4 := j_rng x
  have h5 : 0 ≤ (x / y).toInt * y.toInt := by rw [h1]; exact Int.mul_nonneg (Int.ediv_nonneg hx (by omega)) (by omega)
  have h6 : (x / y).toInt * y.toInt = y.toInt * (x.toInt / y.toInt) := by rw [h1, Int.mul_comm]
  have h7 := j_mul (x := x / y) (y := y) (by omega) (by omega)
  have h8 := j_sub (x := x) (y := x / y * y) (by omega) (by omega)
  omega
theorem jok_rngI {V : jH} {cs : List jFC} {fs : List Value} {k : Nat} {r : Int × Int} {x : Int32} (h : jokO V cs fs) (hc : cs[k]? = some (.inl r)) (hF : fs[k]? = some (.int x)) : r.1 ≤ x.toInt ∧ x.toInt ≤ r.2 := by
  obtain ⟨v, h1, y, rfl, h2, h3⟩ := h.2 k _ hc
  cases hF.symm.trans h1
  exact ⟨h2, h3⟩
/-- how many of the first n places hold another number than c -/
def jcn (c : Int) (F : Nat → Int32) : Nat → Nat
  | 0 => 0
  | n + 1 => jcn c F n + (if (F n).toInt = c then 0 else 1)
theorem jcn_le {c : Int} {F : Nat → Int32} : ∀ n : Nat, jcn c F n ≤ n
  | 0 => Nat.le_refl _
  | n + 1 => by
    have h := jcn_le (c := c) (F := F) n
    unfold jcn
    split <;> omega
theorem jcn_lt {c : Int} {F : Nat → Int32} {k : Nat} (hF : (F k).toInt = c) : ∀ n : Nat, k < n → jcn c F n < n
  | 0, h => absurd h (Nat.not_lt_zero _)
  | n + 1, h => by
    have h1 := jcn_le (c := c) (F := F) n
    unfold jcn
    by_cases hk : k = n
    · subst hk
      rw [if_pos hF]
      omega
    · have h2 := jcn_lt hF n (by omega)
      split <;> omega
theorem jcn_congr {c : Int} {F G : Nat → Int32} : ∀ n : Nat, (∀ k, k < n → G k = F k) → jcn c G n = jcn c F n
  | 0, _ => rfl
  | n + 1, h => by
    have h1 := jcn_congr (c := c) n (fun k hk => h k (by omega))
    unfold jcn
    rw [h1, h n (by omega)]
theorem jcn_up {c : Int} {F G : Nat → Int32} {k : Nat} (hF : (F k).toInt = c) (hG : ¬ (G k).toInt = c) (ho : ∀ j, j ≠ k → G j = F j) : ∀ n : Nat, k < n → jcn c G n = jcn c F n + 1
  | 0, h => absurd h (Nat.not_lt_zero _)
  | n + 1, h => by
    unfold jcn
    by_cases hk : k = n
    · subst hk
      rw [jcn_congr k (fun j hj => ho j (by omega)), if_pos hF, if_neg hG]
    · rw [jcn_up hF hG ho n (by omega), ho n (by omega)]
      omega
theorem jcn_dn {c : Int} {F G : Nat → Int32} {k n : Nat} (hF : ¬ (F k).toInt = c) (hG : (G k).toInt = c) (ho : ∀ j, j ≠ k → G j = F j) (h : k < n) : jcn c F n = jcn c G n + 1 := jcn_up hG hF (fun j hj => (ho j hj).symm) n h
theorem jcn_zero {c : Int} {F : Nat → Int32} : ∀ n : Nat, (∀ k, k < n → (F k).toInt = c) → jcn c F n = 0
  | 0, _ => rfl
  | n + 1, h => by
    unfold jcn
    rw [jcn_zero n (fun k hk => h k (by omega)), if_pos (h n (by omega))]
theorem jcn_one {c : Int} {F : Nat → Int32} {n : Nat} (h0 : ¬ (F 0).toInt = c) (h : ∀ k, 0 < k → k < n → (F k).toInt = c) (hn : 0 < n) : jcn c F n = 1 := by
  induction n with
  | zero => exact absurd hn (Nat.lt_irrefl _)
  | succ n ih =>
    unfold jcn
    by_cases hz : n = 0
    · subst hz
      rw [if_neg h0]
      rfl
    · rw [ih (fun k h1 h2 => h k h1 (by omega)) (by omega), if_pos (h n (by omega) (by omega))]
theorem jcn_ge {c : Int} {F G : Nat → Int32} {k : Nat} (hG : ¬ (G k).toInt = c) (ho : ∀ j, j ≠ k → G j = F j) : ∀ n : Nat, jcn c F n ≤ jcn c G n
  | 0 => Nat.le_refl _
  | n + 1 => by
    have ih := jcn_ge hG ho n
    unfold jcn
    by_cases hk : n = k
    · subst hk
      rw [if_neg hG]
      split <;> omega
    · rw [ho n hk]
      split <;> omega
/-- powers -/
def jpw (d : Int) : Nat → Int
  | 0 => 1
  | n + 1 => d * jpw d n
theorem jpw_pos {d : Int} (h : 1 ≤ d) : ∀ n : Nat, 1 ≤ jpw d n
  | 0 => Int.le_refl _
  | n + 1 => by
    have h1 := jpw_pos h n
    have h2 := Int.mul_le_mul_of_nonneg_right h (show 0 ≤ jpw d n by omega)
    show 1 ≤ d * jpw d n
    omega
theorem jpw_mono {d : Int} (h : 1 ≤ d) {a b : Nat} (hab : a ≤ b) : jpw d a ≤ jpw d b := by
  induction b with
  | zero => rw [show a = 0 by omega]; exact Int.le_refl _
  | succ b ih =>
    by_cases hq : a = b + 1
    · rw [hq]; exact Int.le_refl _
    · have h1 := ih (by omega)
      have h2 := jpw_pos h b
      have h3 := Int.mul_le_mul_of_nonneg_right h (show 0 ≤ jpw d b by omega)
      show jpw d a ≤ d * jpw d b
      omega
theorem jpw_le6 {d : Int} (h : 1 ≤ d) (h6 : d ≤ 6) {n : Nat} (hn : n ≤ 7) : jpw d n ≤ 279936 := by
  have h1 := jpw_mono h hn
  have h2 : ∀ n : Nat, jpw d n ≤ jpw 6 n := by
    intro n
    induction n with
    | zero => exact Int.le_refl _
    | succ n ih =>
      have h3 := Int.mul_le_mul_of_nonneg_left ih (show 0 ≤ d by omega)
      have h4 := Int.mul_le_mul_of_nonneg_right h6 (show 0 ≤ jpw 6 n by have := jpw_pos (d := 6) (by omega) n; omega)
      show d * jpw d n ≤ 6 * jpw 6 n
      omega
  have h3 := h2 7
  have h4 : jpw 6 7 = 279936 := by decide
  omega
theorem jto_step {d a P r : Int} (h1 : 0 ≤ a) (h2 : a < P) (h3 : 0 ≤ r) (h4 : r < d) : 0 ≤ d * a ∧ 0 ≤ d * a + r ∧ d * a + r < d * P := by
  have h5 := Int.mul_nonneg (show 0 ≤ d by omega) h1
  have h6 := Int.mul_le_mul_of_nonneg_left (show a + 1 ≤ P by omega) (show 0 ≤ d by omega)
  rw [Int.mul_add, Int.mul_one] at h6
  omega
/-- a place's number on a board -/
theorem jcell_zero {x y w : Int} (hx : 0 ≤ x) (hw : 0 < w) (hy : 0 ≤ y) : x + w * y = 0 ↔ x = 0 ∧ y = 0 := by
  constructor
  · intro h
    have h1 := Int.mul_nonneg (show 0 ≤ w by omega) hy
    by_cases hy0 : y = 0
    · subst hy0
      omega
    · have h2 := Int.mul_le_mul_of_nonneg_left (show 1 ≤ y by omega) (show 0 ≤ w by omega)
      omega
  · rintro ⟨rfl, rfl⟩
    omega
theorem jcell_last {x y w h : Int} (hx : 0 ≤ x) (hxw : x < w) (hy : 0 ≤ y) (hyh : y < h) : x + w * y = w * h - 1 ↔ x = w - 1 ∧ y = h - 1 := by
  have h1 : w * (h - 1) = w * h - w := by rw [Int.mul_sub, Int.mul_one]
  constructor
  · intro q
    by_cases hy1 : y = h - 1
    · subst hy1
      omega
    · have h2 := Int.mul_le_mul_of_nonneg_left (show y + 1 ≤ h - 1 by omega) (show 0 ≤ w by omega)
      rw [Int.mul_add, Int.mul_one] at h2
      omega
  · rintro ⟨rfl, rfl⟩
    omega
def jdir (g : Int) : Int := if g = 0 then 4 else if g = 2 then 3 else 6
def jtur (g : Int) : Int := if g = 0 then 8 else if g = 1 then 12 else if g = 3 then 48 else 0
theorem jdir_cases (g : Int) : (g = 0 ∧ jdir g = 4) ∨ (g = 2 ∧ jdir g = 3) ∨ (¬ g = 0 ∧ ¬ g = 2 ∧ jdir g = 6) := by
  unfold jdir
  by_cases h : g = 0
  · exact Or.inl ⟨h, by rw [if_pos h]⟩
  by_cases h2 : g = 2
  · exact Or.inr (Or.inl ⟨h2, by rw [if_neg h, if_pos h2]⟩)
  · exact Or.inr (Or.inr ⟨h, h2, by rw [if_neg h, if_neg h2]⟩)
theorem jtur_cases (g : Int) : (g = 0 ∧ jtur g = 8) ∨ (g = 1 ∧ jtur g = 12) ∨ (g = 3 ∧ jtur g = 48) ∨ (¬ g = 0 ∧ ¬ g = 1 ∧ ¬ g = 3 ∧ jtur g = 0) := by
  unfold jtur
  by_cases h : g = 0
  · exact Or.inl ⟨h, by rw [if_pos h]⟩
  by_cases h1 : g = 1
  · exact Or.inr (Or.inl ⟨h1, by rw [if_neg h, if_pos h1]⟩)
  by_cases h3 : g = 3
  · exact Or.inr (Or.inr (Or.inl ⟨h3, by rw [if_neg h, if_neg h1, if_pos h3]⟩))
  · exact Or.inr (Or.inr (Or.inr ⟨h, h1, h3, by rw [if_neg h, if_neg h1, if_neg h3]⟩))
theorem jsw6 (x : Int32) : x = 0 ∨ x = 1 ∨ x = 2 ∨ x = 3 ∨ x = 4 ∨ x = 5 ∨ x = 6 ∨ x.toInt < 0 ∨ 6 < x.toInt := by
  by_cases h0 : x.toInt < 0
  · exact Or.inr (Or.inr (Or.inr (Or.inr (Or.inr (Or.inr (Or.inr (Or.inl h0)))))))
  by_cases h1 : 6 < x.toInt
  · exact Or.inr (Or.inr (Or.inr (Or.inr (Or.inr (Or.inr (Or.inr (Or.inr h1)))))))
  rcases (show x.toInt = 0 ∨ x.toInt = 1 ∨ x.toInt = 2 ∨ x.toInt = 3 ∨ x.toInt = 4 ∨ x.toInt = 5 ∨ x.toInt = 6 by omega) with h | h | h | h | h | h | h
  · exact Or.inl (Int32.toInt_inj.mp (by rw [h]; rfl))
  · exact Or.inr (Or.inl (Int32.toInt_inj.mp (by rw [h]; rfl)))
  · exact Or.inr (Or.inr (Or.inl (Int32.toInt_inj.mp (by rw [h]; rfl))))
  · exact Or.inr (Or.inr (Or.inr (Or.inl (Int32.toInt_inj.mp (by rw [h]; rfl)))))
  · exact Or.inr (Or.inr (Or.inr (Or.inr (Or.inl (Int32.toInt_inj.mp (by rw [h]; rfl))))))
  · exact Or.inr (Or.inr (Or.inr (Or.inr (Or.inr (Or.inl (Int32.toInt_inj.mp (by rw [h]; rfl)))))))
  · exact Or.inr (Or.inr (Or.inr (Or.inr (Or.inr (Or.inr (Or.inl (Int32.toInt_inj.mp (by rw [h]; rfl))))))))
/-- the arrays of role 9: no place becomes -1 -/
def jle9 (V V' : jH) : Prop := ∀ (a : Nat) (h : Nat → Int32), V a = some (.inl (9, 7, .inl h)) → ∃ h' : Nat → Int32, V' a = some (.inl (9, 7, .inl h')) ∧ jcn (-1) h 7 ≤ jcn (-1) h' 7
theorem jle9.rf {V : jH} : jle9 V V := fun _ h q => ⟨h, q, Nat.le_refl _⟩
theorem jle9.trans {V1 V2 V3 : jH} (h1 : jle9 V1 V2) (h2 : jle9 V2 V3) : jle9 V1 V3 := fun a h q => by
  obtain ⟨h', q1, l1⟩ := h1 a h q
  obtain ⟨h3, q2, l2⟩ := h2 a h' q1
  exact ⟨h3, q2, Nat.le_trans l1 l2⟩
theorem jle9.of {E : List jKd} {V V' : jH} (h : jeff E V V') (h9 : (.inl 9 : jKd) ∉ E) : jle9 V V' := fun a f q => ⟨f, h.2 a _ q h9, Nat.le_refl _⟩
theorem jfI.keep {E : List jKd} {V V' : jH} {a ci k : Nat} {y : Int32} (h : jfI V a ci k y) (he : jeff E V V') (hn : (.inr ci : jKd) ∉ E) : jfI V' a ci k y := by
  obtain ⟨fs, h1, h2⟩ := h
  exact ⟨fs, he.2 _ _ h1 hn, h2⟩
theorem jfI.kp {c : Nat} {ks : List Nat} {V V' : jH} {a k : Nat} {y : Int32} (h : jfI V a c k y) (hk : jkc c ks V V') (hm : k ∈ ks) : jfI V' a c k y := by
  obtain ⟨fs, h1, h2⟩ := h
  obtain ⟨fs', h3, h4⟩ := hk a fs h1
  exact ⟨fs', h3, (h4 k hm).trans h2⟩
/-- a comparison of longs, hidden from arithmetic -/
def jLc (z : Int32) (x y : Int64) : Prop := z.toInt = 0 ↔ x = y
theorem jLc_of {x y : Int64} : jLc (lg_cmp x y) x y := jI_zero.symm.trans (lg_cmp_eq x y)
/-- bits of a long -/
def jbt (v : Int64) (n : Nat) : Bool := v.toBitVec.getLsbD n
/-- nothing but what L names is changed -/
def jfp (L : List Nat) (V V' : jH) : Prop := ∀ b : Nat, b ∉ L → V' b = V b
theorem jfp.rf {L : List Nat} {V : jH} : jfp L V V := fun _ _ => rfl
theorem jfp.trans {L : List Nat} {V1 V2 V3 : jH} (h1 : jfp L V1 V2) (h2 : jfp L V2 V3) : jfp L V1 V3 := fun b hb => (h2 b hb).trans (h1 b hb)
theorem jfp.one {L : List Nat} {V V' : jH} {a : Nat} (h : ∀ b : Nat, b ≠ a → V' b = V b) (ha : a ∈ L) : jfp L V V' := fun b hb => h b (fun e => hb (e ▸ ha))
theorem jfp.sub {L L' : List Nat} {V V' : jH} (h : jfp L' V V') (hs : ∀ b ∈ L', b ∈ L) : jfp L V V' := fun b hb => h b (fun q => hb (hs b q))
theorem jin_of {k : jKd} {E : List jKd} (h : jmemB k E = true) : k ∈ E := jmemB_iff.mp h
theorem jdis_of {A E : List jKd} (h : A.all (fun k => !jmemB k E) = true) : ∀ k ∈ A, k ∉ E := fun k hk => jnot_of (by
  have q := List.all_eq_true.mp h k hk
  simpa using q)
/-- what was there, but for L, is as it was -/
def jfa (L : List Nat) (V V' : jH) : Prop := ∀ (b : Nat) (e : jE), b ∉ L → V b = some e → V' b = some e
theorem jfa.rf {L : List Nat} {V : jH} : jfa L V V := fun _ _ _ h => h
theorem jfa.trans {L : List Nat} {V1 V2 V3 : jH} (h1 : jfa L V1 V2) (_ : jext V1 V2) (h2 : jfa L V2 V3) : jfa L V1 V3 := fun b e hb h => h2 b e hb (h1 b e hb h)
theorem jfa.one {q : Nat} {V V' : jH} (h : ∀ b : Nat, b ≠ q → V' b = V b) : jfa [q] V V' := fun b e hb q2 => (h b (fun z => hb (z ▸ List.mem_cons_self))).trans q2
theorem jfa.new {L : List Nat} {V V' : jH} (h : ∀ (b : Nat) (e : jE), V b = some e → V' b = some e) : jfa L V V' := fun b e _ q => h b e q
/-- of all rows only one, a, may have changed; its room, and where it begins, are as they were -/
abbrev jRK : List jKd := [.inr 1, .inl 6, .inl 34, .inl 35, .inl 36]
def jk0 (t b : Nat) (V V' : jH) : Prop := ∀ (n : Nat) (f : Nat → Int32), V b = some (.inl (t, n, .inl f)) → ∃ f' : Nat → Int32, V' b = some (.inl (t, n, .inl f')) ∧ f' 0 = f 0
def jk1 (t b : Nat) (V V' : jH) : Prop := ∀ (n : Nat) (f : Nat → Int32), V b = some (.inl (t, n, .inl f)) → ∃ f' : Nat → Int32, V' b = some (.inl (t, n, .inl f'))
def jrk (a : Nat) (V V' : jH) : Prop := ∀ s x y z : Nat, jfR V a 1 1 s → jfR V a 1 2 x → jfR V a 1 3 y → jfR V a 1 4 z → (∀ (b : Nat) (e : jE), b ∉ [a, s, x, y, z] → V b = some e → jsh e ∈ jRK → V' b = some e) ∧ (∀ M : Int32, jfI V a 1 0 M → jfI V' a 1 0 M) ∧ jk1 6 s V V' ∧ jk0 34 x V V' ∧ jk0 35 y V V' ∧ jk0 36 z V V'
theorem jfR.mono {V V' : jH} {a ci k b : Nat} (h : jfR V a ci k b) (hx : jext V V') : jfR V' a ci k b := by
  obtain ⟨fs, h1, h2⟩ := h
  obtain ⟨fs2, h3, h4⟩ := hx.keep h1
  exact ⟨fs2, h3, h4 _ _ h2⟩
theorem jk0.rf {t b : Nat} {V : jH} : jk0 t b V V := fun _ f h => ⟨f, h, rfl⟩
theorem jk1.rf {t b : Nat} {V : jH} : jk1 t b V V := fun _ f h => ⟨f, h⟩
theorem jk0.trans {t b : Nat} {V1 V2 V3 : jH} (h1 : jk0 t b V1 V2) (h2 : jk0 t b V2 V3) : jk0 t b V1 V3 := fun n f h => by
  obtain ⟨f2, q1, q2⟩ := h1 n f h
  obtain ⟨f3, q3, q4⟩ := h2 n f2 q1
  exact ⟨f3, q3, q4.trans q2⟩
theorem jk1.trans {t b : Nat} {V1 V2 V3 : jH} (h1 : jk1 t b V1 V2) (h2 : jk1 t b V2 V3) : jk1 t b V1 V3 := fun n f h => by
  obtain ⟨f2, q1⟩ := h1 n f h
  obtain ⟨f3, q3⟩ := h2 n f2 q1
  exact ⟨f3, q3⟩
theorem jk0.mk {b t n : Nat} {V V' : jH} {f f' : Nat → Int32} (h : V b = some (.inl (t, n, .inl f))) (h' : V' b = some (.inl (t, n, .inl f'))) (e : f' 0 = f 0) : jk0 t b V V' := fun n2 f2 q => by
  cases h.symm.trans q
  exact ⟨f', h', e⟩
theorem jk1.mk {b t n : Nat} {V V' : jH} {f f' : Nat → Int32} (h : V b = some (.inl (t, n, .inl f))) (h' : V' b = some (.inl (t, n, .inl f'))) : jk1 t b V V' := fun n2 f2 q => by
  cases h.symm.trans q
  exact ⟨f', h'⟩
theorem jrk.rf {a : Nat} {V : jH} : jrk a V V := fun _ _ _ _ _ _ _ _ => ⟨fun _ _ _ h _ => h, fun _ h => h, jk1.rf, jk0.rf, jk0.rf, jk0.rf⟩
theorem jrk.trans {a : Nat} {V1 V2 V3 : jH} (h1 : jrk a V1 V2) (hx : jext V1 V2) (h2 : jrk a V2 V3) : jrk a V1 V3 := fun s x y z r1 r2 r3 r4 => by
  obtain ⟨a1, a2, a3, a4, a5, a6⟩ := h1 s x y z r1 r2 r3 r4
  obtain ⟨b1, b2, b3, b4, b5, b6⟩ := h2 s x y z (r1.mono hx) (r2.mono hx) (r3.mono hx) (r4.mono hx)
  exact ⟨fun b e hb h hk => b1 b e hb (a1 b e hb h hk) hk, fun M h => b2 M (a2 M h), a3.trans b3, a4.trans b4, a5.trans b5, a6.trans b6⟩
theorem jrk.of {E : List jKd} {a : Nat} {V V' : jH} (h : jeff E V V') (hn : ∀ k ∈ jRK, k ∉ E) : jrk a V V' := fun s x y z _ _ _ _ =>
  ⟨fun b e _ hb hk => h.2 b e hb (hn _ hk), fun M q => q.keep h (hn _ (jin_of rfl)), fun n f q => ⟨f, h.2 _ _ q (hn (.inl 6) (jin_of rfl))⟩, fun n f q => ⟨f, h.2 _ _ q (hn (.inl 34) (jin_of rfl)), rfl⟩, fun n f q => ⟨f, h.2 _ _ q (hn (.inl 35) (jin_of rfl)), rfl⟩, fun n f q => ⟨f, h.2 _ _ q (hn (.inl 36) (jin_of rfl)), rfl⟩⟩
theorem jfR.fun {V : jH} {a ci k b c : Nat} (h1 : jfR V a ci k b) (h2 : jfR V a ci k c) : b = c := by
  obtain ⟨fs, q1, q2⟩ := h1
  have q3 := h2.get q1
  rw [q2] at q3
  cases q3
  rfl
theorem jfI.fun {V : jH} {a ci k : Nat} {b c : Int32} (h1 : jfI V a ci k b) (h2 : jfI V a ci k c) : b = c := by
  obtain ⟨fs, q1, q2⟩ := h1
  have q3 := h2.get q1
  rw [q2] at q3
  cases q3
  rfl
theorem jrk.mk {a s x y z : Nat} {M : Int32} {V V' : jH} (r1 : jfR V a 1 1 s) (r2 : jfR V a 1 2 x) (r3 : jfR V a 1 3 y) (r4 : jfR V a 1 4 z) (hf : jfp [a, s, x, y, z] V V') (m1 : jfI V a 1 0 M) (m2 : jfI V' a 1 0 M) (k1 : jk1 6 s V V') (k2 : jk0 34 x V V') (k3 : jk0 35 y V V') (k4 : jk0 36 z V V') : jrk a V V' := fun s2 x2 y2 z2 q1 q2 q3 q4 => by
  obtain rfl := r1.fun q1
  obtain rfl := r2.fun q2
  obtain rfl := r3.fun q3
  obtain rfl := r4.fun q4
  exact ⟨fun b e hb h _ => (hf b hb).trans h, fun M2 h => by rw [h.fun m1]; exact m2, k1, k2, k3, k4⟩
theorem WT_row {V : jH} {a : Nat} (hW : WT V) (h : jis V (.inr 1) a) : ∃ (M n : Int32) (s x y z l1 l2 l3 l4 : Nat) (S X Y Z : Nat → Int32), jfI V a 1 0 M ∧ jfI V a 1 6 n ∧ jfR V a 1 1 s ∧ jfR V a 1 2 x ∧ jfR V a 1 3 y ∧ jfR V a 1 4 z ∧ V s = some (.inl (6, l1, .inl S)) ∧ V x = some (.inl (34, l2, .inl X)) ∧ V y = some (.inl (35, l3, .inl Y)) ∧ V z = some (.inl (36, l4, .inl Z)) := by
  obtain ⟨fs, hO, hK⟩ := WT_obj hW id h
  obtain ⟨w0, f0, M, rfl, -⟩ := hK.2 0 (.inl (0, 120)) rfl
  obtain ⟨w6, f6, n, rfl, -⟩ := hK.2 6 (.inl (0, 120)) rfl
  obtain ⟨w1, f1, s, rfl, h1⟩ := hK.2 1 (.inr (some (.inl 6))) rfl
  obtain ⟨w2, f2, x, rfl, h2⟩ := hK.2 2 (.inr (some (.inl 34))) rfl
  obtain ⟨w3, f3, y, rfl, h3⟩ := hK.2 3 (.inr (some (.inl 35))) rfl
  obtain ⟨w4, f4, z, rfl, h4⟩ := hK.2 4 (.inr (some (.inl 36))) rfl
  obtain ⟨l1, S, a1, -⟩ := WT_arrI (r := (-2147483648, 2147483647)) hW id rfl h1
  obtain ⟨l2, X, a2, -⟩ := WT_arrI (r := (-2147483648, 2147483647)) hW id rfl h2
  obtain ⟨l3, Y, a3, -⟩ := WT_arrI (r := (-2147483648, 2147483647)) hW id rfl h3
  obtain ⟨l4, Z, a4, -⟩ := WT_arrI (r := (-2147483648, 2147483647)) hW id rfl h4
  exact ⟨M, n, s, x, y, z, l1, l2, l3, l4, S, X, Y, Z, ⟨_, hO, f0⟩, ⟨_, hO, f6⟩, ⟨_, hO, f1⟩, ⟨_, hO, f2⟩, ⟨_, hO, f3⟩, ⟨_, hO, f4⟩, a1, a2, a3, a4⟩
/-- the same of the trial row of a class's object -/
def jrt (a : Nat) (V V' : jH) : Prop := ∀ tr : Nat, jfR V a 4 2 tr → jrk tr V V'
theorem jrt.rf {a : Nat} {V : jH} : jrt a V V := fun _ _ => jrk.rf
theorem jrt.trans {a : Nat} {V1 V2 V3 : jH} (h1 : jrt a V1 V2) (hx : jext V1 V2) (h2 : jrt a V2 V3) : jrt a V1 V3 := fun tr q => (h1 tr q).trans hx (h2 tr (q.mono hx))
theorem jrt.of {E : List jKd} {a : Nat} {V V' : jH} (h : jeff E V V') (hn : ∀ k ∈ jRK, k ∉ E) : jrt a V V' := fun _ _ => jrk.of h hn
theorem jrt.call {a b : Nat} {V V' : jH} {fs : List Value} (hO : V a = some (.inr (4, fs))) (hF : fs[2]? = some (.ref b)) (h : jrk b V V') : jrt a V V' := fun tr q => by
  cases (q.get hO).symm.trans hF
  exact h
/-- a Row of the class: where its arrays are, how long, its ground, its size, what the arrays hold -/
def jrw (V : jH) (a s x y z ln : Nat) (g n : Int) (S X Y Z : Nat → Int32) : Prop := (∃ q : Int32, jfI V a 1 0 q ∧ q.toInt = (ln : Int)) ∧ (∃ q : Int32, jfI V a 1 5 q ∧ q.toInt = g) ∧ (∃ q : Int32, jfI V a 1 6 q ∧ q.toInt = n) ∧ jfR V a 1 1 s ∧ jfR V a 1 2 x ∧ jfR V a 1 3 y ∧ jfR V a 1 4 z ∧ V s = some (.inl (6, ln, .inl S)) ∧ V x = some (.inl (34, ln + 1, .inl X)) ∧ V y = some (.inl (35, ln + 1, .inl Y)) ∧ V z = some (.inl (36, ln + 1, .inl Z))
theorem jrw.keep {E : List jKd} {V V' : jH} {a s x y z ln : Nat} {g n : Int} {S X Y Z : Nat → Int32} (h : jrw V a s x y z ln g n S X Y Z) (he : jeff E V V') (hn : ∀ k ∈ jRK, k ∉ E) : jrw V' a s x y z ln g n S X Y Z := by
  obtain ⟨⟨q0, a0, b0⟩, ⟨q5, a5, b5⟩, ⟨q6, a6, b6⟩, r1, r2, r3, r4, c1, c2, c3, c4⟩ := h
  exact ⟨⟨q0, a0.keep he (hn _ (jin_of rfl)), b0⟩, ⟨q5, a5.keep he (hn _ (jin_of rfl)), b5⟩, ⟨q6, a6.keep he (hn _ (jin_of rfl)), b6⟩, r1.mono he.1, r2.mono he.1, r3.mono he.1, r4.mono he.1, he.2 _ _ c1 (hn _ (jin_of rfl)), he.2 _ _ c2 (hn _ (jin_of rfl)), he.2 _ _ c3 (hn _ (jin_of rfl)), he.2 _ _ c4 (hn _ (jin_of rfl))⟩
def jnw (V0 V : jH) (q : Nat) (x : Int32) : Prop := ∃ s xx yy zz : Nat, (V0 s = none ∧ V0 xx = none ∧ V0 yy = none ∧ V0 zz = none) ∧ jrw V q s xx yy zz (jmost x).toInt.toNat 0 0 (fun _ => 0) (fun _ => 0) (fun _ => 0) (fun _ => 0) ∧ jfa [q] V0 V
theorem jmost_eq {x : Int32} (h0 : 0 ≤ x.toInt) (h1 : x.toInt ≤ 120) : (jmost x).toInt = x.toInt := by
  have e0 : (0 : Int32).toInt = 0 := rfl
  have e1 : (120 : Int32).toInt = 120 := rfl
  unfold jmost
  simp only [jlt, e0, e1]
  (repeat' split) <;> omega
theorem jnw.mk {V0 V : jH} {q s xx yy zz : Nat} {x : Int32} (n1 : V0 s = none) (n2 : V0 xx = none) (n3 : V0 yy = none) (n4 : V0 zz = none) (m0 : jfI V q 1 0 (jmost x)) (m5 : jfI V q 1 5 0) (m6 : jfI V q 1 6 0) (r1 : jfR V q 1 1 s) (r2 : jfR V q 1 2 xx) (r3 : jfR V q 1 3 yy) (r4 : jfR V q 1 4 zz) (a1 : V s = some (.inl (6, (jmost x).toNatClampNeg, .inl (fun _ => 0)))) (a2 : V xx = some (.inl (34, (jmost x + 1).toNatClampNeg, .inl (fun _ => 0)))) (a3 : V yy = some (.inl (35, (jmost x + 1).toNatClampNeg, .inl (fun _ => 0)))) (a4 : V zz = some (.inl (36, (jmost x + 1).toNatClampNeg, .inl (fun _ => 0)))) (hf : jfa [q] V0 V) : jnw V0 V q x := by
  have h0 := jmost_lo x
  have h1 := jmost_hi0 x
  have e : (jmost x + 1).toNatClampNeg = (jmost x).toInt.toNat + 1 := by
    show (jmost x + 1).toInt.toNat = _
    rw [j_add1 (by omega)]
    omega
  rw [e] at a2 a3 a4
  exact ⟨s, xx, yy, zz, ⟨n1, n2, n3, n4⟩, ⟨⟨_, m0, by omega⟩, ⟨_, m5, rfl⟩, ⟨_, m6, rfl⟩, r1, r2, r3, r4, a1, a2, a3, a4⟩, hf⟩
/-- the two rows for forms are two -/
def jff (V : jH) (x : Nat) : Prop := ∃ o1 o2 : Nat, jfR V x 4 3 o1 ∧ jfR V x 4 4 o2 ∧ o1 ≠ o2
theorem jff.mono {V V' : jH} {x : Nat} (h : jff V x) (hx : jext V V') : jff V' x := by
  obtain ⟨o1, o2, h1, h2, h3⟩ := h
  exact ⟨o1, o2, h1.mono hx, h2.mono hx, h3⟩
/-- the trial row of a new object -/
def jtx (V : jH) (x : Nat) : Prop := ∃ tr s xx yy zz : Nat, jfR V x 4 2 tr ∧ jrw V tr s xx yy zz 120 0 0 (fun _ => 0) (fun _ => 0) (fun _ => 0) (fun _ => 0)
theorem jtx.keep {E : List jKd} {V V' : jH} {x : Nat} (h : jtx V x) (he : jeff E V V') (hn : ∀ k ∈ jRK, k ∉ E) : jtx V' x := by
  obtain ⟨tr, s, xx, yy, zz, h1, h2⟩ := h
  exact ⟨tr, s, xx, yy, zz, h1.mono he.1, h2.keep he hn⟩
/-- the board of a new object: 2 by 2, no hole -/
def jpl0 (V : jH) (pl : Nat) : Prop := ∃ (w h : Int32) (op : Int64), jfI V pl 0 1 w ∧ jfI V pl 0 2 h ∧ jfL V pl 0 3 op ∧ w.toInt = 2 ∧ h.toInt = 2 ∧ ∀ n : Nat, jbt op n = true ↔ ∃ x y : Nat, ((x : Int) < 2 ∧ (y : Int) < 2) ∧ n = 9 + x + 8 * y
theorem jpl0.keep {E : List jKd} {V V' : jH} {pl : Nat} (h : jpl0 V pl) (he : jeff E V V') (hn : (.inr 0 : jKd) ∉ E) : jpl0 V' pl := by
  obtain ⟨w, h, op, q1, q2, q3, q4⟩ := h
  exact ⟨w, h, op, q1.keep he hn, q2.keep he hn, q3.keep he hn, q4⟩
def jpx (V : jH) (x : Nat) : Prop := ∃ (xs : List Value) (pl : Nat), V x = some (.inr (4, xs)) ∧ xs[6]? = some (.ref pl) ∧ jpl0 V pl
theorem jpx.keep {E : List jKd} {V V' : jH} {x : Nat} (h : jpx V x) (he : jeff E V V') (h0 : (.inr 0 : jKd) ∉ E) (h4 : (.inr 4 : jKd) ∉ E) : jpx V' x := by
  obtain ⟨xs, pl, q1, q2, q3⟩ := h
  exact ⟨xs, pl, he.2 _ _ q1 h4, q2, q3.keep he h0⟩
def jmx (V : jH) (m : Nat) : Prop := ∃ (ms : List Value) (rh : Nat), V m = some (.inr (5, ms)) ∧ ms[25]? = some (.ref rh) ∧ V rh = some (.inl (43, 36, .inl (fun _ => 0)))
theorem jbt_tab : ∀ j : Fin 64, ((1 : Int64) <<< ((Int32.ofNat j.val).toInt64 &&& 63)).toBitVec = BitVec.twoPow 64 j.val := by decide +kernel
theorem jbt_shl {k : Int32} (h0 : 0 ≤ k.toInt) (h1 : k.toInt < 64) (n : Nat) : jbt ((1 : Int64) <<< (k.toInt64 &&& 63)) n = decide ((n : Int) = k.toInt) := by
  have h2 : k = Int32.ofNat k.toInt.toNat := by
    apply Int32.toInt_inj.mp
    rw [jn_len (n := k.toInt.toNat) (by omega)]
    omega
  have h3 := jbt_tab ⟨k.toInt.toNat, by omega⟩
  dsimp only at h3
  rw [← h2] at h3
  unfold jbt
  rw [h3, BitVec.getLsbD_twoPow]
  by_cases hn : n = k.toInt.toNat
  · subst hn
    simp only [decide_true, Bool.and_true]
    rw [decide_eq_true (by omega), decide_eq_true (by omega)]
  · rw [decide_eq_false (p := k.toInt.toNat = n) (fun h => hn h.symm), Bool.and_false]
    exact (decide_eq_false (by omega)).symm
theorem jbt_and (x y : Int64) (n : Nat) : jbt (x &&& y) n = (jbt x n && jbt y n) := by
  unfold jbt
  rw [Int64.toBitVec_and, BitVec.getLsbD_and]
theorem jbt_or (x y : Int64) (n : Nat) : jbt (x ||| y) n = (jbt x n || jbt y n) := by
  unfold jbt
  rw [Int64.toBitVec_or, BitVec.getLsbD_or]
theorem jbt_xor (x y : Int64) (n : Nat) : jbt (x ^^^ y) n = (jbt x n ^^ jbt y n) := by
  unfold jbt
  rw [Int64.toBitVec_xor, BitVec.getLsbD_xor]
theorem jbt_zero (n : Nat) : jbt 0 n = false := by
  unfold jbt
  exact BitVec.getLsbD_zero
theorem jbt_ext {x y : Int64} (h : ∀ n, jbt x n = jbt y n) : x = y := by
  apply Int64.toBitVec_inj.mp
  exact BitVec.eq_of_getLsbD_eq (fun i _ => h i)
theorem jbt_one {op b : Int64} {k : Nat} (hb : ∀ n, jbt b n = decide (n = k)) : (op &&& b) = 0 ↔ jbt op k = false := by
  constructor
  · intro h
    have h1 := jbt_and op b k
    rw [h, jbt_zero, hb k, decide_eq_true rfl, Bool.and_true] at h1
    exact h1.symm
  · intro h
    refine jbt_ext (fun n => ?_)
    rw [jbt_and, jbt_zero, hb n]
    by_cases hn : n = k
    · subst hn
      rw [h]
      rfl
    · rw [decide_eq_false hn, Bool.and_false]
theorem jfL.kp {c : Nat} {ks : List Nat} {V V' : jH} {a k : Nat} {y : Int64} (h : jfL V a c k y) (hk : jkc c ks V V') (hm : k ∈ ks) : jfL V' a c k y := by
  obtain ⟨fs, h1, h2⟩ := h
  obtain ⟨fs', h3, h4⟩ := hk a fs h1
  exact ⟨fs', h3, (h4 k hm).trans h2⟩
section JZ
variable {tS : jTS} {M : jM} {d pc : Nat} {ls : List (Option Value)} {st : List Value} {V : jH} {kc ks : Nat} {Q : Option Value → jH → Prop}
theorem Jz_iconst {n : Int} (c : Int) (hd : decode M.2.1 pc = .ok (.iconst n, 1)) (hc : (Int32.ofInt n).toInt = c) (kk : ∀ z : Int32, jEq z.toInt c → J tS M d (pc + 1) ls (.int z :: st) V kc ks Q) : J tS M d pc ls st V kc ks Q := J_iconst hd rfl (kk _ hc)
theorem Jz_bipush {n : Int} (c : Int) (hd : decode M.2.1 pc = .ok (.bipush n, 2)) (hc : ((Int8.ofInt n).toInt32).toInt = c) (kk : ∀ z : Int32, jEq z.toInt c → J tS M d (pc + 2) ls (.int z :: st) V kc ks Q) : J tS M d pc ls st V kc ks Q := J_bipush hd rfl (kk _ hc)
theorem Jz_sipush {n : Int} (c : Int) (hd : decode M.2.1 pc = .ok (.sipush n, 3)) (hc : ((Int16.ofInt n).toInt32).toInt = c) (kk : ∀ z : Int32, jEq z.toInt c → J tS M d (pc + 3) ls (.int z :: st) V kc ks Q) : J tS M d pc ls st V kc ks Q := J_sipush hd rfl (kk _ hc)
theorem Jz_ldc {index : Nat} {v : Int32} (c : Int) (hw : Cond.constant M.1.cls index v ∈ jWG) (hd : decode M.2.1 pc = .ok (.ldc index, 2)) (hc : v.toInt = c) (kk : ∀ z : Int32, jEq z.toInt c → J tS M d (pc + 2) ls (.int z :: st) V kc ks Q) : J tS M d pc ls st V kc ks Q := J_ldc hw hd (kk _ hc)
theorem Jz_iadd {x y : Int32} {A B : Int} (hx : jEq x.toInt A) (hy : jEq y.toInt B) (hd : decode M.2.1 pc = .ok (.iadd, 1)) (h1 : -2147483648 ≤ A + B) (h2 : A + B ≤ 2147483647) (kk : ∀ z : Int32, jEq z.toInt (A + B) → J tS M d (pc + 1) ls (.int z :: st) V kc ks Q) : J tS M d pc ls (.int y :: .int x :: st) V kc ks Q := by
  cases hx
  cases hy
  exact J_iadd hd (kk _ (j_add h1 h2))
theorem Jz_isub {x y : Int32} {A B : Int} (hx : jEq x.toInt A) (hy : jEq y.toInt B) (hd : decode M.2.1 pc = .ok (.isub, 1)) (h1 : -2147483648 ≤ A - B) (h2 : A - B ≤ 2147483647) (kk : ∀ z : Int32, jEq z.toInt (A - B) → J tS M d (pc + 1) ls (.int z :: st) V kc ks Q) : J tS M d pc ls (.int y :: .int x :: st) V kc ks Q := by
  cases hx
  cases hy
  exact J_isub hd (kk _ (j_sub h1 h2))
theorem Jz_imul {x y : Int32} {A B : Int} (hx : jEq x.toInt A) (hy : jEq y.toInt B) (hd : decode M.2.1 pc = .ok (.imul, 1)) (h1 : -2147483648 ≤ A * B) (h2 : A * B ≤ 2147483647) (kk : ∀ z : Int32, jEq z.toInt (A * B) → J tS M d (pc + 1) ls (.int z :: st) V kc ks Q) : J tS M d pc ls (.int y :: .int x :: st) V kc ks Q := by
  cases hx
  cases hy
  exact J_imul hd (kk _ (j_mul h1 h2))
theorem Jz_iaddw {x y : Int32} (hd : decode M.2.1 pc = .ok (.iadd, 1)) (kk : ∀ z : Int32, J tS M d (pc + 1) ls (.int z :: st) V kc ks Q) : J tS M d pc ls (.int y :: .int x :: st) V kc ks Q := J_iadd hd (kk _)
theorem Jz_isubw {x y : Int32} (hd : decode M.2.1 pc = .ok (.isub, 1)) (kk : ∀ z : Int32, J tS M d (pc + 1) ls (.int z :: st) V kc ks Q) : J tS M d pc ls (.int y :: .int x :: st) V kc ks Q := J_isub hd (kk _)
theorem Jz_imulw {x y : Int32} (hd : decode M.2.1 pc = .ok (.imul, 1)) (kk : ∀ z : Int32, J tS M d (pc + 1) ls (.int z :: st) V kc ks Q) : J tS M d pc ls (.int y :: .int x :: st) V kc ks Q := J_imul hd (kk _)
theorem Jz_iandw {x y : Int32} (hd : decode M.2.1 pc = .ok (.iand, 1)) (kk : ∀ z : Int32, J tS M d (pc + 1) ls (.int z :: st) V kc ks Q) : J tS M d pc ls (.int y :: .int x :: st) V kc ks Q := J_iand hd (kk _)
theorem Jz_iorw {x y : Int32} (hd : decode M.2.1 pc = .ok (.ior, 1)) (kk : ∀ z : Int32, J tS M d (pc + 1) ls (.int z :: st) V kc ks Q) : J tS M d pc ls (.int y :: .int x :: st) V kc ks Q := J_ior hd (kk _)
theorem Jz_ixorw {x y : Int32} (hd : decode M.2.1 pc = .ok (.ixor, 1)) (kk : ∀ z : Int32, J tS M d (pc + 1) ls (.int z :: st) V kc ks Q) : J tS M d pc ls (.int y :: .int x :: st) V kc ks Q := J_ixor hd (kk _)
theorem Jz_ishlw {x y : Int32} (hd : decode M.2.1 pc = .ok (.ishl, 1)) (kk : ∀ z : Int32, J tS M d (pc + 1) ls (.int z :: st) V kc ks Q) : J tS M d pc ls (.int y :: .int x :: st) V kc ks Q := J_ishl hd (kk _)
theorem Jz_ishrw {x y : Int32} (hd : decode M.2.1 pc = .ok (.ishr, 1)) (kk : ∀ z : Int32, J tS M d (pc + 1) ls (.int z :: st) V kc ks Q) : J tS M d pc ls (.int y :: .int x :: st) V kc ks Q := J_ishr hd (kk _)
theorem Jz_iushrw {x y : Int32} (hd : decode M.2.1 pc = .ok (.iushr, 1)) (kk : ∀ z : Int32, J tS M d (pc + 1) ls (.int z :: st) V kc ks Q) : J tS M d pc ls (.int y :: .int x :: st) V kc ks Q := J_iushr hd rfl (kk _)
theorem Jz_imulB {x y : Int32} {A B : Int} (C : Int) (hx : jEq x.toInt A) (hy : jEq y.toInt B) (hd : decode M.2.1 pc = .ok (.imul, 1)) (h0 : 0 ≤ A) (h1 : 0 ≤ B) (hB : B ≤ C) (h2 : C * A ≤ 2147483647) (kk : ∀ z : Int32, 0 ≤ z.toInt → z.toInt ≤ C * A → J tS M d (pc + 1) ls (.int z :: st) V kc ks Q) : J tS M d pc ls (.int y :: .int x :: st) V kc ks Q := by
  cases hx
  cases hy
  have h3 : x.toInt * y.toInt ≤ C * x.toInt := by rw [Int.mul_comm C]; exact Int.mul_le_mul_of_nonneg_left hB h0
  have h4 : 0 ≤ x.toInt * y.toInt := Int.mul_nonneg h0 h1
  have h5 := j_mul (x := x) (y := y) (by omega) (by omega)
  exact J_imul hd (kk _ (by omega) (by omega))
theorem Jz_imulM {x y : Int32} {A B : Int} (C : Int) (hx : jEq x.toInt A) (hy : jEq y.toInt B) (hd : decode M.2.1 pc = .ok (.imul, 1)) (h0 : 0 ≤ A) (h1 : 1 ≤ B) (hB : B ≤ C) (h2 : C * A ≤ 2147483647) (kk : ∀ z : Int32, A ≤ z.toInt → z.toInt ≤ C * A → J tS M d (pc + 1) ls (.int z :: st) V kc ks Q) : J tS M d pc ls (.int y :: .int x :: st) V kc ks Q := by
  cases hx
  cases hy
  have h3 : x.toInt * y.toInt ≤ C * x.toInt := by rw [Int.mul_comm C]; exact Int.mul_le_mul_of_nonneg_left hB h0
  have h4 : x.toInt * 1 ≤ x.toInt * y.toInt := Int.mul_le_mul_of_nonneg_left h1 h0
  have h5 := j_mul (x := x) (y := y) (by omega) (by omega)
  exact J_imul hd (kk _ (by omega) (by omega))
theorem Jz_idivw {x y : Int32} {B : Int} (hy : jEq y.toInt B) (hd : decode M.2.1 pc = .ok (.idiv, 1)) (hn : B ≠ 0) (kk : ∀ z : Int32, J tS M d (pc + 1) ls (.int z :: st) V kc ks Q) : J tS M d pc ls (.int y :: .int x :: st) V kc ks Q := by
  cases hy
  exact J_idiv hd (fun h => hn (jI_zero.mp h)) (kk _)
theorem Jz_iremw {x y : Int32} {B : Int} (hy : jEq y.toInt B) (hd : decode M.2.1 pc = .ok (.irem, 1)) (hn : B ≠ 0) (kk : ∀ z : Int32, J tS M d (pc + 1) ls (.int z :: st) V kc ks Q) : J tS M d pc ls (.int y :: .int x :: st) V kc ks Q := by
  cases hy
  exact J_irem hd (fun h => hn (jI_zero.mp h)) (kk _)
theorem Jz_idiv {x y : Int32} {A B : Int} (hx : jEq x.toInt A) (hy : jEq y.toInt B) (hd : decode M.2.1 pc = .ok (.idiv, 1)) (h1 : 0 < B) (h0 : 0 ≤ A) (kk : ∀ z : Int32, 0 ≤ z.toInt → z.toInt ≤ A → J tS M d (pc + 1) ls (.int z :: st) V kc ks Q) : J tS M d pc ls (.int y :: .int x :: st) V kc ks Q := by
  cases hx
  cases hy
  have h2 := jz_div h0 h1
  have h3 : x.toInt / y.toInt ≤ x.toInt := Int.ediv_le_self _ h0
  have h4 : 0 ≤ x.toInt / y.toInt := Int.ediv_nonneg h0 (by omega)
  exact J_idiv hd (fun h => by rw [jI_zero] at h; omega) (kk _ (by omega) (by omega))
theorem Jz_idivC {x y : Int32} {A B : Int} (hx : jEq x.toInt A) (hy : jEq y.toInt B) (hd : decode M.2.1 pc = .ok (.idiv, 1)) (h1 : 0 < B) (h0 : 0 ≤ A) (kk : ∀ z : Int32, jEq z.toInt (A / B) → J tS M d (pc + 1) ls (.int z :: st) V kc ks Q) : J tS M d pc ls (.int y :: .int x :: st) V kc ks Q := by
  cases hx
  cases hy
  exact J_idiv hd (fun h => by rw [jI_zero] at h; omega) (kk _ (jz_div h0 h1))
theorem Jz_iremC {x y : Int32} {A B : Int} (hx : jEq x.toInt A) (hy : jEq y.toInt B) (hd : decode M.2.1 pc = .ok (.irem, 1)) (h1 : 0 < B) (h0 : 0 ≤ A) (kk : ∀ z : Int32, jEq z.toInt (A % B) → J tS M d (pc + 1) ls (.int z :: st) V kc ks Q) : J tS M d pc ls (.int y :: .int x :: st) V kc ks Q := by
  cases hx
  cases hy
  exact J_irem hd (fun h => by rw [jI_zero] at h; omega) (kk _ (jz_rem h0 h1))
theorem Jz_irem {x y : Int32} {A B : Int} (hx : jEq x.toInt A) (hy : jEq y.toInt B) (hd : decode M.2.1 pc = .ok (.irem, 1)) (h1 : 0 < B) (h0 : 0 ≤ A) (kk : ∀ z : Int32, 0 ≤ z.toInt → z.toInt < B → J tS M d (pc + 1) ls (.int z :: st) V kc ks Q) : J tS M d pc ls (.int y :: .int x :: st) V kc ks Q := by
  cases hx
  cases hy
  refine J_irem hd (fun h => by rw [jI_zero] at h; omega) (kk _ ?_ ?_)
  · rw [jz_rem h0 h1]; exact Int.emod_nonneg _ (by omega)
  · rw [jz_rem h0 h1]; exact Int.emod_lt_of_pos _ h1
theorem Jz_inegw {x : Int32} (hd : decode M.2.1 pc = .ok (.ineg, 1)) (kk : ∀ z : Int32, J tS M d (pc + 1) ls (.int z :: st) V kc ks Q) : J tS M d pc ls (.int x :: st) V kc ks Q := J_ineg hd (kk _)
theorem Jz_i2bw {x : Int32} (hd : decode M.2.1 pc = .ok (.i2b, 1)) (kk : ∀ z : Int32, J tS M d (pc + 1) ls (.int z :: st) V kc ks Q) : J tS M d pc ls (.int x :: st) V kc ks Q := J_i2b hd rfl (kk _)
theorem Jz_l2iw {x : Int64} (hd : decode M.2.1 pc = .ok (.l2i, 1)) (kk : ∀ z : Int32, J tS M d (pc + 1) ls (.int z :: st) V kc ks Q) : J tS M d pc ls (.long x :: st) V kc ks Q := J_l2i hd rfl (kk _)
theorem Jz_lcmp {x y : Int64} (hd : decode M.2.1 pc = .ok (.lcmp, 1)) (kk : ∀ z : Int32, jLc z x y → J tS M d (pc + 1) ls (.int z :: st) V kc ks Q) : J tS M d pc ls (.long y :: .long x :: st) V kc ks Q := J_lcmp hd (kk _ jLc_of)
theorem Jz_lcmpw {x y : Int64} (hd : decode M.2.1 pc = .ok (.lcmp, 1)) (kk : ∀ z : Int32, J tS M d (pc + 1) ls (.int z :: st) V kc ks Q) : J tS M d pc ls (.long y :: .long x :: st) V kc ks Q := J_lcmp hd (kk _)
theorem Jz_iinc (c : Int) {i : Nat} {n : Int} {x : Int32} (hd : decode M.2.1 pc = .ok (.iinc i n, 3)) (hi : ls[i]? = some (some (.int x))) (hk : jlk ls i = true) (hm : i < M.2.2.1) {A : Int} (hx : jEq x.toInt A) (hc : (Int32.ofInt n).toInt = c) (h1 : -2147483648 ≤ A + c) (h2 : A + c ≤ 2147483647) (kk : ∀ z : Int32, jEq z.toInt (A + c) → J tS M d (pc + 3) (ls.set i (some (.int z))) st V kc ks Q) : J tS M d pc ls st V kc ks Q := by
  cases hx
  exact J_iinc hd hi rfl hk hm (kk _ (by subst hc; exact j_add h1 h2))
theorem Jz_iincw {i : Nat} {n : Int} {x : Int32} (hd : decode M.2.1 pc = .ok (.iinc i n, 3)) (hi : ls[i]? = some (some (.int x))) (hk : jlk ls i = true) (hm : i < M.2.2.1) (kk : ∀ z : Int32, J tS M d (pc + 3) (ls.set i (some (.int z))) st V kc ks Q) : J tS M d pc ls st V kc ks Q := J_iinc hd hi rfl hk hm (kk _)
theorem Jz_if_eq {x : Int32} {off : Int} {tgt : Nat} {A : Int} (hx : jEq x.toInt A) (hd : decode M.2.1 pc = .ok (.ifCond .eq off, 3)) (ht : (pc : Int) + off = (tgt : Int)) (kt : A = 0 → J tS M d tgt ls st V kc ks Q) (kf : ¬ A = 0 → J tS M d (pc + 3) ls st V kc ks Q) : J tS M d pc ls (.int x :: st) V kc ks Q := by
  cases hx
  exact J_if_eq hd ht (fun h => kt (jI_zero.mp h)) (fun h => kf (fun q => h (jI_zero.mpr q)))
theorem Jz_icmp_eq {x y : Int32} {off : Int} {tgt : Nat} {A B : Int} (hx : jEq x.toInt A) (hy : jEq y.toInt B) (hd : decode M.2.1 pc = .ok (.if_icmp .eq off, 3)) (ht : (pc : Int) + off = (tgt : Int)) (kt : A = B → J tS M d tgt ls st V kc ks Q) (kf : ¬ A = B → J tS M d (pc + 3) ls st V kc ks Q) : J tS M d pc ls (.int y :: .int x :: st) V kc ks Q := by
  cases hx
  cases hy
  exact J_icmp_eq hd ht (fun h => kt (jI_inj.mpr h)) (fun h => kf (fun q => h (jI_inj.mp q)))
theorem Jz_if_ne {x : Int32} {off : Int} {tgt : Nat} {A : Int} (hx : jEq x.toInt A) (hd : decode M.2.1 pc = .ok (.ifCond .ne off, 3)) (ht : (pc : Int) + off = (tgt : Int)) (kt : ¬ A = 0 → J tS M d tgt ls st V kc ks Q) (kf : A = 0 → J tS M d (pc + 3) ls st V kc ks Q) : J tS M d pc ls (.int x :: st) V kc ks Q := by
  cases hx
  exact J_if_ne hd ht (fun h => kt (fun q => h (jI_zero.mpr q))) (fun h => kf (jI_zero.mp h))
theorem Jz_icmp_ne {x y : Int32} {off : Int} {tgt : Nat} {A B : Int} (hx : jEq x.toInt A) (hy : jEq y.toInt B) (hd : decode M.2.1 pc = .ok (.if_icmp .ne off, 3)) (ht : (pc : Int) + off = (tgt : Int)) (kt : ¬ A = B → J tS M d tgt ls st V kc ks Q) (kf : A = B → J tS M d (pc + 3) ls st V kc ks Q) : J tS M d pc ls (.int y :: .int x :: st) V kc ks Q := by
  cases hx
  cases hy
  exact J_icmp_ne hd ht (fun h => kt (fun q => h (jI_inj.mp q))) (fun h => kf (jI_inj.mpr h))
theorem Jz_if_lt {x : Int32} {off : Int} {tgt : Nat} {A : Int} (hx : jEq x.toInt A) (hd : decode M.2.1 pc = .ok (.ifCond .lt off, 3)) (ht : (pc : Int) + off = (tgt : Int)) (kt : A < 0 → J tS M d tgt ls st V kc ks Q) (kf : ¬ A < 0 → J tS M d (pc + 3) ls st V kc ks Q) : J tS M d pc ls (.int x :: st) V kc ks Q := by
  cases hx
  exact J_if_lt hd ht (fun h => kt (by have q := jlt.mp h; rw [Int32.toInt_zero] at q; exact q)) (fun h => kf (fun q => h (jlt.mpr (by rw [Int32.toInt_zero]; exact q))))
theorem Jz_icmp_lt {x y : Int32} {off : Int} {tgt : Nat} {A B : Int} (hx : jEq x.toInt A) (hy : jEq y.toInt B) (hd : decode M.2.1 pc = .ok (.if_icmp .lt off, 3)) (ht : (pc : Int) + off = (tgt : Int)) (kt : A < B → J tS M d tgt ls st V kc ks Q) (kf : ¬ A < B → J tS M d (pc + 3) ls st V kc ks Q) : J tS M d pc ls (.int y :: .int x :: st) V kc ks Q := by
  cases hx
  cases hy
  exact J_icmp_lt hd ht (fun h => kt (jlt.mp h)) (fun h => kf (fun q => h (jlt.mpr q)))
theorem Jz_if_ge {x : Int32} {off : Int} {tgt : Nat} {A : Int} (hx : jEq x.toInt A) (hd : decode M.2.1 pc = .ok (.ifCond .ge off, 3)) (ht : (pc : Int) + off = (tgt : Int)) (kt : 0 ≤ A → J tS M d tgt ls st V kc ks Q) (kf : ¬ 0 ≤ A → J tS M d (pc + 3) ls st V kc ks Q) : J tS M d pc ls (.int x :: st) V kc ks Q := by
  cases hx
  exact J_if_ge hd ht (fun h => kt (by have q := jle.mp h; rw [Int32.toInt_zero] at q; exact q)) (fun h => kf (fun q => h (jle.mpr (by rw [Int32.toInt_zero]; exact q))))
theorem Jz_icmp_ge {x y : Int32} {off : Int} {tgt : Nat} {A B : Int} (hx : jEq x.toInt A) (hy : jEq y.toInt B) (hd : decode M.2.1 pc = .ok (.if_icmp .ge off, 3)) (ht : (pc : Int) + off = (tgt : Int)) (kt : B ≤ A → J tS M d tgt ls st V kc ks Q) (kf : ¬ B ≤ A → J tS M d (pc + 3) ls st V kc ks Q) : J tS M d pc ls (.int y :: .int x :: st) V kc ks Q := by
  cases hx
  cases hy
  exact J_icmp_ge hd ht (fun h => kt (jle.mp h)) (fun h => kf (fun q => h (jle.mpr q)))
theorem Jz_if_gt {x : Int32} {off : Int} {tgt : Nat} {A : Int} (hx : jEq x.toInt A) (hd : decode M.2.1 pc = .ok (.ifCond .gt off, 3)) (ht : (pc : Int) + off = (tgt : Int)) (kt : 0 < A → J tS M d tgt ls st V kc ks Q) (kf : ¬ 0 < A → J tS M d (pc + 3) ls st V kc ks Q) : J tS M d pc ls (.int x :: st) V kc ks Q := by
  cases hx
  exact J_if_gt hd ht (fun h => kt (by have q := jlt.mp h; rw [Int32.toInt_zero] at q; exact q)) (fun h => kf (fun q => h (jlt.mpr (by rw [Int32.toInt_zero]; exact q))))
theorem Jz_icmp_gt {x y : Int32} {off : Int} {tgt : Nat} {A B : Int} (hx : jEq x.toInt A) (hy : jEq y.toInt B) (hd : decode M.2.1 pc = .ok (.if_icmp .gt off, 3)) (ht : (pc : Int) + off = (tgt : Int)) (kt : B < A → J tS M d tgt ls st V kc ks Q) (kf : ¬ B < A → J tS M d (pc + 3) ls st V kc ks Q) : J tS M d pc ls (.int y :: .int x :: st) V kc ks Q := by
  cases hx
  cases hy
  exact J_icmp_gt hd ht (fun h => kt (jlt.mp h)) (fun h => kf (fun q => h (jlt.mpr q)))
theorem Jz_if_le {x : Int32} {off : Int} {tgt : Nat} {A : Int} (hx : jEq x.toInt A) (hd : decode M.2.1 pc = .ok (.ifCond .le off, 3)) (ht : (pc : Int) + off = (tgt : Int)) (kt : A ≤ 0 → J tS M d tgt ls st V kc ks Q) (kf : ¬ A ≤ 0 → J tS M d (pc + 3) ls st V kc ks Q) : J tS M d pc ls (.int x :: st) V kc ks Q := by
  cases hx
  exact J_if_le hd ht (fun h => kt (by have q := jle.mp h; rw [Int32.toInt_zero] at q; exact q)) (fun h => kf (fun q => h (jle.mpr (by rw [Int32.toInt_zero]; exact q))))
theorem Jz_icmp_le {x y : Int32} {off : Int} {tgt : Nat} {A B : Int} (hx : jEq x.toInt A) (hy : jEq y.toInt B) (hd : decode M.2.1 pc = .ok (.if_icmp .le off, 3)) (ht : (pc : Int) + off = (tgt : Int)) (kt : A ≤ B → J tS M d tgt ls st V kc ks Q) (kf : ¬ A ≤ B → J tS M d (pc + 3) ls st V kc ks Q) : J tS M d pc ls (.int y :: .int x :: st) V kc ks Q := by
  cases hx
  cases hy
  exact J_icmp_le hd ht (fun h => kt (jle.mp h)) (fun h => kf (fun q => h (jle.mpr q)))
theorem Jz_iald {t a n : Nat} {f : Nat → Int32} {i : Int32} {r : Int × Int} {A : Int} (hx : jEq i.toInt A) (hd : decode M.2.1 pc = .ok (.iaload, 1)) (hV : V a = some (.inl (t, n, .inl f))) (ht : jT[t]? = some .int) (hv : ∀ j, j < n → r.1 ≤ (f j).toInt ∧ (f j).toInt ≤ r.2) (h1 : 0 ≤ A) (h2 : A < (n : Int)) (kk : ∀ x : Int32, f A.toNat = x → r.1 ≤ x.toInt → x.toInt ≤ r.2 → J tS M d (pc + 1) ls (.int x :: st) V kc ks Q) : J tS M d pc ls (.int i :: .ref a :: st) V kc ks Q := by
  cases hx
  have hin : vp_in i n := vp_in_n h1 h2
  have h := hv i.toNatClampNeg (Nat.not_le.mp fun q => hin (Or.inr q))
  exact J_iald hd hV ht hin (kk _ rfl h.1 h.2)
theorem Jz_ialdr {t a n : Nat} {f : Nat → Int32} {i : Int32} {r : Int × Int} {A : Int} (hx : jEq i.toInt A) (hd : decode M.2.1 pc = .ok (.iaload, 1)) (hV : V a = some (.inl (t, n, .inl f))) (ht : jT[t]? = some .int) (hv : ∀ j, j < n → r.1 ≤ (f j).toInt ∧ (f j).toInt ≤ r.2) (h1 : 0 ≤ A) (h2 : A < (n : Int)) (kk : ∀ x : Int32, r.1 ≤ x.toInt → x.toInt ≤ r.2 → J tS M d (pc + 1) ls (.int x :: st) V kc ks Q) : J tS M d pc ls (.int i :: .ref a :: st) V kc ks Q := Jz_iald hx hd hV ht hv h1 h2 (fun x _ h3 h4 => kk x h3 h4)
theorem Jz_ialdw {t a n : Nat} {f : Nat → Int32} {i : Int32} {A : Int} (hx : jEq i.toInt A) (hd : decode M.2.1 pc = .ok (.iaload, 1)) (hV : V a = some (.inl (t, n, .inl f))) (ht : jT[t]? = some .int) (h1 : 0 ≤ A) (h2 : A < (n : Int)) (kk : ∀ x : Int32, J tS M d (pc + 1) ls (.int x :: st) V kc ks Q) : J tS M d pc ls (.int i :: .ref a :: st) V kc ks Q := by
  cases hx
  exact J_iald hd hV ht (vp_in_n h1 h2) (kk _)
theorem Jz_zald {t a n : Nat} {f : Nat → Int32} {i : Int32} {r : Int × Int} {A : Int} (hx : jEq i.toInt A) (hd : decode M.2.1 pc = .ok (.baload, 1)) (hV : V a = some (.inl (t, n, .inl f))) (ht : jT[t]? = some .boolean) (hv : ∀ j, j < n → r.1 ≤ (f j).toInt ∧ (f j).toInt ≤ r.2) (h1 : 0 ≤ A) (h2 : A < (n : Int)) (kk : ∀ x : Int32, f A.toNat = x → r.1 ≤ x.toInt → x.toInt ≤ r.2 → J tS M d (pc + 1) ls (.int x :: st) V kc ks Q) : J tS M d pc ls (.int i :: .ref a :: st) V kc ks Q := by
  cases hx
  have hin : vp_in i n := vp_in_n h1 h2
  have h := hv i.toNatClampNeg (Nat.not_le.mp fun q => hin (Or.inr q))
  exact J_zald hd hV ht hin (kk _ rfl h.1 h.2)
theorem Jz_zaldr {t a n : Nat} {f : Nat → Int32} {i : Int32} {r : Int × Int} {A : Int} (hx : jEq i.toInt A) (hd : decode M.2.1 pc = .ok (.baload, 1)) (hV : V a = some (.inl (t, n, .inl f))) (ht : jT[t]? = some .boolean) (hv : ∀ j, j < n → r.1 ≤ (f j).toInt ∧ (f j).toInt ≤ r.2) (h1 : 0 ≤ A) (h2 : A < (n : Int)) (kk : ∀ x : Int32, r.1 ≤ x.toInt → x.toInt ≤ r.2 → J tS M d (pc + 1) ls (.int x :: st) V kc ks Q) : J tS M d pc ls (.int i :: .ref a :: st) V kc ks Q := Jz_zald hx hd hV ht hv h1 h2 (fun x _ h3 h4 => kk x h3 h4)
theorem Jz_zaldw {t a n : Nat} {f : Nat → Int32} {i : Int32} {A : Int} (hx : jEq i.toInt A) (hd : decode M.2.1 pc = .ok (.baload, 1)) (hV : V a = some (.inl (t, n, .inl f))) (ht : jT[t]? = some .boolean) (h1 : 0 ≤ A) (h2 : A < (n : Int)) (kk : ∀ x : Int32, J tS M d (pc + 1) ls (.int x :: st) V kc ks Q) : J tS M d pc ls (.int i :: .ref a :: st) V kc ks Q := by
  cases hx
  exact J_zald hd hV ht (vp_in_n h1 h2) (kk _)
theorem Jz_bald {t a n : Nat} {f : Nat → Int32} {i : Int32} {r : Int × Int} {A : Int} (hx : jEq i.toInt A) (hd : decode M.2.1 pc = .ok (.baload, 1)) (hV : V a = some (.inl (t, n, .inl f))) (ht : jT[t]? = some .byte) (hv : ∀ j, j < n → r.1 ≤ (f j).toInt ∧ (f j).toInt ≤ r.2) (h1 : 0 ≤ A) (h2 : A < (n : Int)) (kk : ∀ x : Int32, f A.toNat = x → r.1 ≤ x.toInt → x.toInt ≤ r.2 → J tS M d (pc + 1) ls (.int x :: st) V kc ks Q) : J tS M d pc ls (.int i :: .ref a :: st) V kc ks Q := by
  cases hx
  have hin : vp_in i n := vp_in_n h1 h2
  have h := hv i.toNatClampNeg (Nat.not_le.mp fun q => hin (Or.inr q))
  exact J_bald hd hV ht hin (kk _ rfl h.1 h.2)
theorem Jz_baldr {t a n : Nat} {f : Nat → Int32} {i : Int32} {r : Int × Int} {A : Int} (hx : jEq i.toInt A) (hd : decode M.2.1 pc = .ok (.baload, 1)) (hV : V a = some (.inl (t, n, .inl f))) (ht : jT[t]? = some .byte) (hv : ∀ j, j < n → r.1 ≤ (f j).toInt ∧ (f j).toInt ≤ r.2) (h1 : 0 ≤ A) (h2 : A < (n : Int)) (kk : ∀ x : Int32, r.1 ≤ x.toInt → x.toInt ≤ r.2 → J tS M d (pc + 1) ls (.int x :: st) V kc ks Q) : J tS M d pc ls (.int i :: .ref a :: st) V kc ks Q := Jz_bald hx hd hV ht hv h1 h2 (fun x _ h3 h4 => kk x h3 h4)
theorem Jz_baldw {t a n : Nat} {f : Nat → Int32} {i : Int32} {A : Int} (hx : jEq i.toInt A) (hd : decode M.2.1 pc = .ok (.baload, 1)) (hV : V a = some (.inl (t, n, .inl f))) (ht : jT[t]? = some .byte) (h1 : 0 ≤ A) (h2 : A < (n : Int)) (kk : ∀ x : Int32, J tS M d (pc + 1) ls (.int x :: st) V kc ks Q) : J tS M d pc ls (.int i :: .ref a :: st) V kc ks Q := by
  cases hx
  exact J_bald hd hV ht (vp_in_n h1 h2) (kk _)
theorem Jz_lald {t a n : Nat} {f : Nat → Int64} {i : Int32} {A : Int} (hx : jEq i.toInt A) (hd : decode M.2.1 pc = .ok (.laload, 1)) (hV : V a = some (.inl (t, n, .inr (.inl f)))) (ht : jT[t]? = some .long) (h1 : 0 ≤ A) (h2 : A < (n : Int)) (kk : ∀ x : Int64, J tS M d (pc + 1) ls (.long x :: st) V kc ks Q) : J tS M d pc ls (.int i :: .ref a :: st) V kc ks Q := by
  cases hx
  exact J_lald hd hV ht (vp_in_n h1 h2) (kk _)
theorem Jz_last {t a n : Nat} {f : Nat → Int64} {i : Int32} {x : Int64} {p : Nat → Prop} {A : Int} (hx : jEq i.toInt A) (hW : WTx p V) (hp : ¬ p a) (hd : decode M.2.1 pc = .ok (.lastore, 1)) (hV : V a = some (.inl (t, n, .inr (.inl f)))) (ht : jT[t]? = some .long) (hc : jAc t = .inr none) (h1 : 0 ≤ A) (h2 : A < (n : Int)) (kk : ∀ V2 : jH, WTx p V2 → jeff [.inl t] V V2 → J tS M d (pc + 1) ls st V2 kc ks Q) : J tS M d pc ls (.long x :: .int i :: .ref a :: st) V kc ks Q := by
  cases hx
  exact Jw_last hW hp hd hV ht hc (vp_in_n h1 h2) (fun V2 h3 h4 _ => kk V2 h3 h4)
theorem Jz_iast {t a n : Nat} {f : Nat → Int32} {i x : Int32} {r : Int × Int} {p : Nat → Prop} {A : Int} (hx : jEq i.toInt A) {X : Int} (hz : jEq x.toInt X) (hW : WTx p V) (hp : ¬ p a) (hd : decode M.2.1 pc = .ok (.iastore, 1)) (hV : V a = some (.inl (t, n, .inl f))) (ht : jT[t]? = some .int) (hc : jAc t = .inl r) (hi1 : 0 ≤ A) (hi2 : A < (n : Int)) (h1 : r.1 ≤ X) (h2 : X ≤ r.2) (kk : ∀ (V' : jH) (f' : Nat → Int32), WTx p V' → jeff [.inl t] V V' → V' a = some (.inl (t, n, .inl f')) → f' A.toNat = x → (∀ k, k ≠ A.toNat → f' k = f k) → J tS M d (pc + 1) ls st V' kc ks Q) : J tS M d pc ls (.int x :: .int i :: .ref a :: st) V kc ks Q := by
  cases hx
  cases hz
  have h0 := hW a _ hp hV
  refine J_iast hd hV ht (vp_in_n hi1 hi2) (kk _ _ (hW.put hV jrel.arr (fun _ => ⟨h0.1, h0.2.1, ?_⟩)) (jeff.put hV jrel.arr List.mem_cons_self) jup_self (by exact pk_us) (fun k hk => pk_un hk))
  have h3 := h0.2.2
  dsimp only at h3 ⊢
  rw [hc] at h3 ⊢
  obtain ⟨g, hg, h4⟩ := h3
  cases hg
  refine ⟨_, rfl, fun j hj => ?_⟩
  by_cases hq : j = i.toNatClampNeg
  · subst hq
    rw [pk_us]
    exact ⟨h1, h2⟩
  · rw [pk_un hq]
    exact h4 j hj
theorem Jz_iastw {t a n : Nat} {f : Nat → Int32} {i x : Int32} {r : Int × Int} {p : Nat → Prop} {A : Int} (hx : jEq i.toInt A) {X : Int} (hz : jEq x.toInt X) (hW : WTx p V) (hp : ¬ p a) (hd : decode M.2.1 pc = .ok (.iastore, 1)) (hV : V a = some (.inl (t, n, .inl f))) (ht : jT[t]? = some .int) (hc : jAc t = .inl r) (hi1 : 0 ≤ A) (hi2 : A < (n : Int)) (h1 : r.1 ≤ X) (h2 : X ≤ r.2) (kk : ∀ V' : jH, WTx p V' → jeff [.inl t] V V' → J tS M d (pc + 1) ls st V' kc ks Q) : J tS M d pc ls (.int x :: .int i :: .ref a :: st) V kc ks Q := Jz_iast hx hz hW hp hd hV ht hc hi1 hi2 h1 h2 (fun V' _ h3 h4 _ _ _ => kk V' h3 h4)
theorem Jz_zast {t a n : Nat} {f : Nat → Int32} {i x : Int32} {r : Int × Int} {p : Nat → Prop} {A : Int} (hx : jEq i.toInt A) {X : Int} (hz : jEq x.toInt X) (hW : WTx p V) (hp : ¬ p a) (hd : decode M.2.1 pc = .ok (.bastore, 1)) (hV : V a = some (.inl (t, n, .inl f))) (ht : jT[t]? = some .boolean) (hc : jAc t = .inl r) (hi1 : 0 ≤ A) (hi2 : A < (n : Int)) (h1 : r.1 ≤ X) (h2 : X ≤ r.2) (hnr : ∀ q : Int32, q.toInt = X → vp_nar .boolean q = q) (kk : ∀ (V' : jH) (f' : Nat → Int32), WTx p V' → jeff [.inl t] V V' → V' a = some (.inl (t, n, .inl f')) → f' A.toNat = x → (∀ k, k ≠ A.toNat → f' k = f k) → J tS M d (pc + 1) ls st V' kc ks Q) : J tS M d pc ls (.int x :: .int i :: .ref a :: st) V kc ks Q := by
  cases hx
  cases hz
  have h0 := hW a _ hp hV
  refine J_zast hd hV ht (vp_in_n hi1 hi2) (kk _ _ (hW.put hV jrel.arr (fun _ => ⟨h0.1, h0.2.1, ?_⟩)) (jeff.put hV jrel.arr List.mem_cons_self) jup_self (by rw [hnr x rfl]; exact pk_us) (fun k hk => pk_un hk))
  have h3 := h0.2.2
  dsimp only at h3 ⊢
  rw [hc] at h3 ⊢
  obtain ⟨g, hg, h4⟩ := h3
  cases hg
  refine ⟨_, rfl, fun j hj => ?_⟩
  by_cases hq : j = i.toNatClampNeg
  · subst hq
    rw [hnr x rfl]; rw [pk_us]
    exact ⟨h1, h2⟩
  · rw [pk_un hq]
    exact h4 j hj
theorem Jz_zastw {t a n : Nat} {f : Nat → Int32} {i x : Int32} {r : Int × Int} {p : Nat → Prop} {A : Int} (hx : jEq i.toInt A) {X : Int} (hz : jEq x.toInt X) (hW : WTx p V) (hp : ¬ p a) (hd : decode M.2.1 pc = .ok (.bastore, 1)) (hV : V a = some (.inl (t, n, .inl f))) (ht : jT[t]? = some .boolean) (hc : jAc t = .inl r) (hi1 : 0 ≤ A) (hi2 : A < (n : Int)) (h1 : r.1 ≤ X) (h2 : X ≤ r.2) (hnr : ∀ q : Int32, q.toInt = X → vp_nar .boolean q = q) (kk : ∀ V' : jH, WTx p V' → jeff [.inl t] V V' → J tS M d (pc + 1) ls st V' kc ks Q) : J tS M d pc ls (.int x :: .int i :: .ref a :: st) V kc ks Q := Jz_zast hx hz hW hp hd hV ht hc hi1 hi2 h1 h2 hnr (fun V' _ h3 h4 _ _ _ => kk V' h3 h4)
theorem Jz_bast {t a n : Nat} {f : Nat → Int32} {i x : Int32} {r : Int × Int} {p : Nat → Prop} {A : Int} (hx : jEq i.toInt A) {X : Int} (hz : jEq x.toInt X) (hW : WTx p V) (hp : ¬ p a) (hd : decode M.2.1 pc = .ok (.bastore, 1)) (hV : V a = some (.inl (t, n, .inl f))) (ht : jT[t]? = some .byte) (hc : jAc t = .inl r) (hi1 : 0 ≤ A) (hi2 : A < (n : Int)) (h1 : r.1 ≤ X) (h2 : X ≤ r.2) (hnr : ∀ q : Int32, q.toInt = X → vp_nar .byte q = q) (kk : ∀ (V' : jH) (f' : Nat → Int32), WTx p V' → jeff [.inl t] V V' → V' a = some (.inl (t, n, .inl f')) → f' A.toNat = x → (∀ k, k ≠ A.toNat → f' k = f k) → J tS M d (pc + 1) ls st V' kc ks Q) : J tS M d pc ls (.int x :: .int i :: .ref a :: st) V kc ks Q := by
  cases hx
  cases hz
  have h0 := hW a _ hp hV
  refine J_bast hd hV ht (vp_in_n hi1 hi2) (kk _ _ (hW.put hV jrel.arr (fun _ => ⟨h0.1, h0.2.1, ?_⟩)) (jeff.put hV jrel.arr List.mem_cons_self) jup_self (by rw [hnr x rfl]; exact pk_us) (fun k hk => pk_un hk))
  have h3 := h0.2.2
  dsimp only at h3 ⊢
  rw [hc] at h3 ⊢
  obtain ⟨g, hg, h4⟩ := h3
  cases hg
  refine ⟨_, rfl, fun j hj => ?_⟩
  by_cases hq : j = i.toNatClampNeg
  · subst hq
    rw [hnr x rfl]; rw [pk_us]
    exact ⟨h1, h2⟩
  · rw [pk_un hq]
    exact h4 j hj
theorem Jz_bastw {t a n : Nat} {f : Nat → Int32} {i x : Int32} {r : Int × Int} {p : Nat → Prop} {A : Int} (hx : jEq i.toInt A) {X : Int} (hz : jEq x.toInt X) (hW : WTx p V) (hp : ¬ p a) (hd : decode M.2.1 pc = .ok (.bastore, 1)) (hV : V a = some (.inl (t, n, .inl f))) (ht : jT[t]? = some .byte) (hc : jAc t = .inl r) (hi1 : 0 ≤ A) (hi2 : A < (n : Int)) (h1 : r.1 ≤ X) (h2 : X ≤ r.2) (hnr : ∀ q : Int32, q.toInt = X → vp_nar .byte q = q) (kk : ∀ V' : jH, WTx p V' → jeff [.inl t] V V' → J tS M d (pc + 1) ls st V' kc ks Q) : J tS M d pc ls (.int x :: .int i :: .ref a :: st) V kc ks Q := Jz_bast hx hz hW hp hd hV ht hc hi1 hi2 h1 h2 hnr (fun V' _ h3 h4 _ _ _ => kk V' h3 h4)
theorem Jz_iastB {t a n : Nat} {f : Nat → Int32} {i x : Int32} {r : Int × Int} {p : Nat → Prop} {A : Int} (hx : jEq i.toInt A) {X : Int} (hz : jEq x.toInt X) (hW : WTx p V) (hp : ¬ p a) (hd : decode M.2.1 pc = .ok (.iastore, 1)) (hV : V a = some (.inl (t, n, .inl f))) (ht : jT[t]? = some .int) (hc : jAc t = .inl r) (hi1 : 0 ≤ A) (hi2 : A < (n : Int)) (h1 : r.1 ≤ X) (h2 : X ≤ r.2) (kk : ∀ (V' : jH) (f' : Nat → Int32), WTx p V' → jeff [.inl t] V V' → V' a = some (.inl (t, n, .inl f')) → f' A.toNat = x → (∀ k, k ≠ A.toNat → f' k = f k) → (∀ b : Nat, b ≠ a → V' b = V b) → J tS M d (pc + 1) ls st V' kc ks Q) : J tS M d pc ls (.int x :: .int i :: .ref a :: st) V kc ks Q := by
  cases hx
  cases hz
  have h0 := hW a _ hp hV
  refine J_iast hd hV ht (vp_in_n hi1 hi2) (kk _ _ (hW.put hV jrel.arr (fun _ => ⟨h0.1, h0.2.1, ?_⟩)) (jeff.put hV jrel.arr List.mem_cons_self) jup_self (by exact pk_us) (fun k hk => pk_un hk) (fun b hb => jup_ne hb))
  have h3 := h0.2.2
  dsimp only at h3 ⊢
  rw [hc] at h3 ⊢
  obtain ⟨g, hg, h4⟩ := h3
  cases hg
  refine ⟨_, rfl, fun j hj => ?_⟩
  by_cases hq : j = i.toNatClampNeg
  · subst hq
    rw [pk_us]
    exact ⟨h1, h2⟩
  · rw [pk_un hq]
    exact h4 j hj
theorem Jz_putI {index ci k a : Nat} {r : Int × Int} {ty : FieldType} {x : Int32} {fs : List Value} {p : Nat → Prop} (h3 : V a = some (.inr (ci, fs))) (hW : WTx p V) (hp : ¬ p a) (hc : (jFs ci)[k]? = some (.inl r)) (hF : jF M.1.cls index ci k) (hT : jFt ci k false ty) {X : Int} (hz : jEq x.toInt X) (hd : decode M.2.1 pc = .ok (.putfield index, 3)) (h1 : r.1 ≤ X) (h2 : X ≤ r.2) (hn : ∀ q : Int32, q.toInt = X → narrow ty (.int q) = .int q ∧ fits ty (.int q) = true) (kk : ∀ (V' : jH) (fs' : List Value), WTx p V' → jeff [.inr ci] V V' → V' a = some (.inr (ci, fs')) → fs'[k]? = some (.int x) → (∀ j, j ≠ k → fs'[j]? = fs[j]?) → (∀ b : Nat, b ≠ a → V' b = V b) → J tS M d (pc + 3) ls st V' kc ks Q) : J tS M d pc ls (.int x :: .ref a :: st) V kc ks Q := by
  cases hz
  have h4 : jokO V (jFs ci) fs := hW a _ hp h3
  have hl : k < fs.length := by rw [h4.1]; exact (List.getElem?_eq_some_iff.mp hc).1
  exact J_put hF hT hd h3 (hn x rfl).1 (hn x rfl).2 hl (kk _ _ (hW.put h3 (jrel.obj (jokO_nrI h4 hc)) (fun _ => jokO_set h4 hc ⟨x, rfl, h1, h2⟩)) (jeff.put h3 (jrel.obj (jokO_nrI h4 hc)) List.mem_cons_self) jup_self (List.getElem?_set_self hl) (fun j hj => List.getElem?_set_ne (Ne.symm hj)) (fun b hb => jup_ne hb))
theorem Jz_putL {index ci k a : Nat} {ty : FieldType} {x : Int64} {fs : List Value} {p : Nat → Prop} (h3 : V a = some (.inr (ci, fs))) (hW : WTx p V) (hp : ¬ p a) (hc : (jFs ci)[k]? = some (.inr none)) (hF : jF M.1.cls index ci k) (hT : jFt ci k false ty) (hd : decode M.2.1 pc = .ok (.putfield index, 3)) (hn : narrow ty (.long x) = .long x) (hf : fits ty (.long x) = true) (kk : ∀ (V' : jH) (fs' : List Value), WTx p V' → jeff [.inr ci] V V' → V' a = some (.inr (ci, fs')) → fs'[k]? = some (.long x) → (∀ j, j ≠ k → fs'[j]? = fs[j]?) → (∀ b : Nat, b ≠ a → V' b = V b) → J tS M d (pc + 3) ls st V' kc ks Q) : J tS M d pc ls (.long x :: .ref a :: st) V kc ks Q := by
  have h4 : jokO V (jFs ci) fs := hW a _ hp h3
  have hl : k < fs.length := by rw [h4.1]; exact (List.getElem?_eq_some_iff.mp hc).1
  exact J_put hF hT hd h3 hn hf hl (kk _ _ (hW.put h3 (jrel.obj (jokO_nrL h4 hc)) (fun _ => jokO_set h4 hc ⟨x, rfl⟩)) (jeff.put h3 (jrel.obj (jokO_nrL h4 hc)) List.mem_cons_self) jup_self (List.getElem?_set_self hl) (fun j hj => List.getElem?_set_ne (Ne.symm hj)) (fun b hb => jup_ne hb))
end JZ
/-! how many bits are set (Long.bitCount) -/
def jG1 (b : Nat) : Nat := b - ((b / 2) &&& 85)
def jG2 (b : Nat) : Nat := (jG1 b &&& 51) + ((jG1 b / 4) &&& 51)
def jP8 (b : Nat) : Nat := (b.testBit 0).toNat + (b.testBit 1).toNat + (b.testBit 2).toNat + (b.testBit 3).toNat + (b.testBit 4).toNat + (b.testBit 5).toNat + (b.testBit 6).toNat + (b.testBit 7).toNat
theorem jG1_ok : ∀ b, b < 256 → (b / 2) &&& 85 ≤ b ∧ jG1 b < 256 := by decide +kernel
theorem jG1_hi : ∀ b, b < 256 → ∀ t, t < 2 → (b / 2 + 128 * t) &&& 85 = (b / 2) &&& 85 := by decide +kernel
theorem jG2_hi : ∀ b, b < 256 → ∀ t, t < 4 → (b / 4 + 64 * t) &&& 51 = (b / 4) &&& 51 := by decide +kernel
theorem jG2_ok : ∀ b, b < 256 → jG2 b < 256 ∧ jG2 b % 16 < 5 := by decide +kernel
theorem jG3_ok : ∀ b, b < 256 → ∀ t, t < 5 → jG2 b + jG2 b / 16 + 16 * t < 256 ∧ (jG2 b + jG2 b / 16 + 16 * t) &&& 15 = jP8 b := by decide +kernel
theorem jP8_le : ∀ b, b < 256 → jP8 b ≤ 8 := by decide +kernel
theorem jand8 {c m a b : Nat} (hc : c < 256) (hm : m < 256) : (c + 256 * a) &&& (m + 256 * b) = (c &&& m) + 256 * (a &&& b) := by
  apply Nat.eq_of_testBit_eq
  intro i
  rw [Nat.testBit_and, show c + 256 * a = 2 ^ 8 * a + c by omega, show m + 256 * b = 2 ^ 8 * b + m by omega, show (c &&& m) + 256 * (a &&& b) = 2 ^ 8 * (a &&& b) + (c &&& m) by omega, Nat.testBit_two_pow_mul_add _ hc, Nat.testBit_two_pow_mul_add _ hm, Nat.testBit_two_pow_mul_add _ (Nat.lt_of_le_of_lt Nat.and_le_left hc)]
  by_cases h : i < 8
  · simp [h]
  · simp [h]
def jV8 : List Nat → Nat
  | [] => 0
  | c :: cs => c + 256 * jV8 cs
def jM8 (m : Nat) : Nat → Nat
  | 0 => 0
  | k + 1 => m + 256 * jM8 m k
theorem jst1 : ∀ cs : List Nat, (∀ c ∈ cs, c < 256) → (jV8 cs / 2) &&& jM8 85 cs.length ≤ jV8 cs ∧ jV8 cs - ((jV8 cs / 2) &&& jM8 85 cs.length) = jV8 (cs.map jG1)
  | [], _ => ⟨Nat.le_refl _, rfl⟩
  | c :: cs, h => by
    have hc := h c List.mem_cons_self
    obtain ⟨i1, i2⟩ := jst1 cs (fun x hx => h x (List.mem_cons_of_mem _ hx))
    show ((c + 256 * jV8 cs) / 2) &&& (85 + 256 * jM8 85 cs.length) ≤ c + 256 * jV8 cs ∧ c + 256 * jV8 cs - (((c + 256 * jV8 cs) / 2) &&& (85 + 256 * jM8 85 cs.length)) = jG1 c + 256 * jV8 (cs.map jG1)
    have q : (c + 256 * jV8 cs) / 2 = (c / 2 + 128 * (jV8 cs % 2)) + 256 * (jV8 cs / 2) := by omega
    rw [q, jand8 (by omega) (by decide), jG1_hi c hc _ (by omega), ← i2]
    have o := jG1_ok c hc
    unfold jG1 at *
    omega
theorem jst2 : ∀ cs : List Nat, (∀ c ∈ cs, c < 256) → (jV8 cs &&& jM8 51 cs.length) + ((jV8 cs / 4) &&& jM8 51 cs.length) = jV8 (cs.map fun c => (c &&& 51) + ((c / 4) &&& 51))
  | [], _ => rfl
  | c :: cs, h => by
    have hc := h c List.mem_cons_self
    have i2 := jst2 cs (fun x hx => h x (List.mem_cons_of_mem _ hx))
    show ((c + 256 * jV8 cs) &&& (51 + 256 * jM8 51 cs.length)) + (((c + 256 * jV8 cs) / 4) &&& (51 + 256 * jM8 51 cs.length)) = ((c &&& 51) + ((c / 4) &&& 51)) + 256 * jV8 (cs.map fun c => (c &&& 51) + ((c / 4) &&& 51))
    have q : (c + 256 * jV8 cs) / 4 = (c / 4 + 64 * (jV8 cs % 4)) + 256 * (jV8 cs / 4) := by omega
    rw [q, jand8 hc (by decide), jand8 (by omega) (by decide), jG2_hi c hc _ (by omega), ← i2]
    omega
theorem jst3 : ∀ cs : List Nat, (∀ c ∈ cs, c < 256) → (jV8 (cs.map jG2) + jV8 (cs.map jG2) / 16) &&& jM8 15 cs.length = jV8 (cs.map jP8) ∧ jV8 (cs.map jG2) % 16 < 5
  | [], _ => ⟨rfl, by decide⟩
  | c :: cs, h => by
    have hc := h c List.mem_cons_self
    obtain ⟨i1, i2⟩ := jst3 cs (fun x hx => h x (List.mem_cons_of_mem _ hx))
    have o := jG2_ok c hc
    show ((jG2 c + 256 * jV8 (cs.map jG2)) + (jG2 c + 256 * jV8 (cs.map jG2)) / 16) &&& (15 + 256 * jM8 15 cs.length) = jP8 c + 256 * jV8 (cs.map jP8) ∧ (jG2 c + 256 * jV8 (cs.map jG2)) % 16 < 5
    refine ⟨?_, by omega⟩
    have q : (jG2 c + 256 * jV8 (cs.map jG2)) + (jG2 c + 256 * jV8 (cs.map jG2)) / 16 = (jG2 c + jG2 c / 16 + 16 * (jV8 (cs.map jG2) % 16)) + 256 * (jV8 (cs.map jG2) + jV8 (cs.map jG2) / 16) := by omega
    obtain ⟨o1, o2⟩ := jG3_ok c hc _ i2
    rw [q, jand8 o1 (by decide), o2, i1]
theorem jbytes (v : Nat) (h : v < 2 ^ 64) : v = jV8 [v % 256, v / 256 % 256, v / 65536 % 256, v / 16777216 % 256, v / 4294967296 % 256, v / 1099511627776 % 256, v / 281474976710656 % 256, v / 72057594037927936 % 256] := by
  show v = v % 256 + 256 * (v / 256 % 256 + 256 * (v / 65536 % 256 + 256 * (v / 16777216 % 256 + 256 * (v / 4294967296 % 256 + 256 * (v / 1099511627776 % 256 + 256 * (v / 281474976710656 % 256 + 256 * (v / 72057594037927936 % 256 + 256 * 0)))))))
  have h0 : v < 18446744073709551616 := h
  omega
def jsum (t : Nat → Nat) : Nat → Nat
  | 0 => 0
  | n + 1 => jsum t n + t n
def jswar (v : BitVec 64) : BitVec 64 :=
  let a := v - ((v >>> 1) &&& 0x5555555555555555#64)
  let b := (a &&& 0x3333333333333333#64) + ((a >>> 2) &&& 0x3333333333333333#64)
  let c := (b + (b >>> 4)) &&& 0x0f0f0f0f0f0f0f0f#64
  let d := c + (c >>> 8)
  let e := d + (d >>> 16)
  e + (e >>> 32)
theorem jfold {c p0 p1 p2 p3 p4 p5 p6 p7 : Nat} (hc : c = p0 + 256 * (p1 + 256 * (p2 + 256 * (p3 + 256 * (p4 + 256 * (p5 + 256 * (p6 + 256 * (p7 + 256 * 0)))))))) (h0 : p0 ≤ 8) (h1 : p1 ≤ 8) (h2 : p2 ≤ 8) (h3 : p3 ≤ 8) (h4 : p4 ≤ 8) (h5 : p5 ≤ 8) (h6 : p6 ≤ 8) (h7 : p7 ≤ 8) : ∃ d e f : Nat, d = c + c / 256 ∧ e = d + d / 65536 ∧ f = e + e / 4294967296 ∧ d < 18446744073709551616 ∧ e < 18446744073709551616 ∧ f < 18446744073709551616 ∧ f % 128 = p0 + p1 + p2 + p3 + p4 + p5 + p6 + p7 := by
  obtain ⟨y7, e7⟩ : ∃ y, y = p7 := ⟨_, rfl⟩
  obtain ⟨y6, e6⟩ : ∃ y, y = p6 + 256 * y7 := ⟨_, rfl⟩
  obtain ⟨y5, e5⟩ : ∃ y, y = p5 + 256 * y6 := ⟨_, rfl⟩
  obtain ⟨y4, e4⟩ : ∃ y, y = p4 + 256 * y5 := ⟨_, rfl⟩
  obtain ⟨y3, e3⟩ : ∃ y, y = p3 + 256 * y4 := ⟨_, rfl⟩
  obtain ⟨y2, e2⟩ : ∃ y, y = p2 + 256 * y3 := ⟨_, rfl⟩
  obtain ⟨y1, e1⟩ : ∃ y, y = p1 + 256 * y2 := ⟨_, rfl⟩
  have hc : c = p0 + 256 * y1 := by rw [hc, e1, e2, e3, e4, e5, e6, e7, Nat.mul_zero, Nat.add_zero]
  have b7 : y7 ≤ 8 := by omega
  have b6 : y6 ≤ 2056 := by clear hc e5 e4 e3 e2 e1; omega
  have b5 : y5 ≤ 526344 := by clear hc e7 e6 e4 e3 e2 e1; omega
  have b4 : y4 ≤ 134744072 := by clear hc e7 e6 e5 e3 e2 e1; omega
  have b3 : y3 ≤ 34494482440 := by clear hc e7 e6 e5 e4 e2 e1; omega
  have b2 : y2 ≤ 8830587504648 := by clear hc e7 e6 e5 e4 e3 e1; omega
  have b1 : y1 ≤ 2260630401189896 := by clear hc e7 e6 e5 e4 e3 e2; omega
  have b0 : c ≤ 578721382704613384 := by clear e7 e6 e5 e4 e3 e2 e1; omega
  have q1 : c / 256 = y1 := by rw [hc, Nat.add_mul_div_left _ _ (by decide), Nat.div_eq_of_lt (by omega), Nat.zero_add]
  obtain ⟨d, hd⟩ : ∃ d, d = c + y1 := ⟨_, rfl⟩
  have q2 : d / 65536 = y2 + y3 := by
    rw [show d = ((p0 + p1) + 256 * (p1 + p2)) + 65536 * (y2 + y3) by rw [hd, hc, e1, e2]; omega, Nat.add_mul_div_left _ _ (by decide), Nat.div_eq_of_lt (by omega), Nat.zero_add]
  obtain ⟨e, he⟩ : ∃ e, e = d + (y2 + y3) := ⟨_, rfl⟩
  have q3 : e / 4294967296 = y4 + y5 + y6 + y7 := by
    rw [show e = ((p0 + p1 + p2 + p3) + 256 * (p1 + p2 + p3 + p4) + 65536 * ((p2 + p3 + p4 + p5) + 256 * (p3 + p4 + p5 + p6))) + 4294967296 * (y4 + y5 + y6 + y7) by rw [he, hd, hc, e1, e2, e3, e4, e5]; omega, Nat.add_mul_div_left _ _ (by decide), Nat.div_eq_of_lt (by omega), Nat.zero_add]
  refine ⟨d, e, e + (y4 + y5 + y6 + y7), by rw [hd, q1], by rw [he, q2], by rw [q3], by omega, by omega, by omega, ?_⟩
  rw [show e + (y4 + y5 + y6 + y7) = (p0 + p1 + p2 + p3 + p4 + p5 + p6 + p7) + 128 * (2 * ((p1 + p2 + p3 + p4) + 256 * ((p2 + p3 + p4 + p5) + 256 * (p3 + p4 + p5 + p6)) + 16777216 * (y4 + y5 + y6 + y7) + (y5 + y6 + y7))) by rw [he, hd, hc, e1, e2, e3, e4, e5, e6, e7]; omega, Nat.add_mul_mod_self_left, Nat.mod_eq_of_lt (by omega)]
set_option maxHeartbeats 2000000 in
theorem jpop {v : BitVec 64} : (jswar v).toNat % 128 = jsum (fun n => (v.getLsbD n).toNat) 64 := by
  have hv := v.isLt
  have hb := jbytes v.toNat hv
  generalize hcs : [v.toNat % 256, v.toNat / 256 % 256, v.toNat / 65536 % 256, v.toNat / 16777216 % 256, v.toNat / 4294967296 % 256, v.toNat / 1099511627776 % 256, v.toNat / 281474976710656 % 256, v.toNat / 72057594037927936 % 256] = cs at hb
  have hl : cs.length = 8 := by rw [← hcs]; rfl
  have hlt : ∀ c ∈ cs, c < 256 := by
    rw [← hcs]
    intro c hc
    simp only [List.mem_cons, List.not_mem_nil, or_false] at hc
    omega
  -- step 1
  obtain ⟨s1, s1e⟩ := jst1 cs hlt
  have h1 : ∀ c ∈ cs.map jG1, c < 256 := by
    intro c hc
    obtain ⟨x, hx, rfl⟩ := List.mem_map.mp hc
    exact (jG1_ok x (hlt x hx)).2
  have s2 := jst2 (cs.map jG1) h1
  have s3 := (jst3 cs hlt).1
  rw [List.length_map, List.map_map] at s2
  have s2' : (jV8 (cs.map jG1) &&& jM8 51 8) + ((jV8 (cs.map jG1) / 4) &&& jM8 51 8) = jV8 (cs.map jG2) := by rw [← hl]; exact s2
  rw [hl] at s1 s1e s3
  rw [← hb] at s1 s1e
  have hsh : ∀ (x : BitVec 64) (k : Nat), (x >>> k).toNat = x.toNat / 2 ^ k := fun x k => by rw [BitVec.toNat_ushiftRight, Nat.shiftRight_eq_div_pow]
  unfold jswar
  dsimp only
  generalize ha : v - ((v >>> 1) &&& 0x5555555555555555#64) = a
  have ea : a.toNat = jV8 (cs.map jG1) := by
    have h2 : ((v >>> 1) &&& 0x5555555555555555#64).toNat = (v.toNat / 2) &&& jM8 85 8 := by rw [BitVec.toNat_and, hsh]; rfl
    rw [← ha, BitVec.toNat_sub_of_le (by rw [BitVec.le_def, h2]; exact s1), h2, s1e]
  clear ha
  generalize hb2 : (a &&& 0x3333333333333333#64) + ((a >>> 2) &&& 0x3333333333333333#64) = b
  have eb : b.toNat = jV8 (cs.map jG2) := by
    rw [← hb2, BitVec.toNat_add, BitVec.toNat_and, BitVec.toNat_and, hsh, ea, ← s2']
    refine Nat.mod_eq_of_lt ?_
    have q1 : jV8 (cs.map jG1) &&& jM8 51 8 ≤ jM8 51 8 := Nat.and_le_right
    have q2 : jV8 (cs.map jG1) / 4 &&& jM8 51 8 ≤ jM8 51 8 := Nat.and_le_right
    have q3 : jM8 51 8 = 3689348814741910323 := rfl
    show (jV8 (cs.map jG1) &&& jM8 51 8) + (jV8 (cs.map jG1) / 4 &&& jM8 51 8) < 18446744073709551616
    omega
  clear hb2 ea s1 s1e
  generalize hc2 : (b + (b >>> 4)) &&& 0x0f0f0f0f0f0f0f0f#64 = c
  have hbs : jV8 (cs.map jG2) ≤ 2 * jM8 51 8 := by
    rw [← s2']
    have q1 : jV8 (cs.map jG1) &&& jM8 51 8 ≤ jM8 51 8 := Nat.and_le_right
    have q2 : jV8 (cs.map jG1) / 4 &&& jM8 51 8 ≤ jM8 51 8 := Nat.and_le_right
    omega
  have ec : c.toNat = jV8 (cs.map jP8) := by
    have q3 : jM8 51 8 = 3689348814741910323 := rfl
    rw [← hc2, BitVec.toNat_and, BitVec.toNat_add, hsh, eb, Nat.mod_eq_of_lt (show _ < 18446744073709551616 by omega)]
    exact s3
  clear hc2 eb s2 s2'
  have hp : ∀ x : Nat, x ∈ cs → jP8 x ≤ 8 := fun x hx => jP8_le x (hlt x hx)
  rw [← hcs] at ec hp
  have e0 := hp _ (List.mem_cons_self)
  have e1 := hp _ (List.mem_cons_of_mem _ List.mem_cons_self)
  have e2 := hp _ (List.mem_cons_of_mem _ (List.mem_cons_of_mem _ List.mem_cons_self))
  have e3 := hp _ (List.mem_cons_of_mem _ (List.mem_cons_of_mem _ (List.mem_cons_of_mem _ List.mem_cons_self)))
  have e4 := hp _ (List.mem_cons_of_mem _ (List.mem_cons_of_mem _ (List.mem_cons_of_mem _ (List.mem_cons_of_mem _ List.mem_cons_self))))
  have e5 := hp _ (List.mem_cons_of_mem _ (List.mem_cons_of_mem _ (List.mem_cons_of_mem _ (List.mem_cons_of_mem _ (List.mem_cons_of_mem _ List.mem_cons_self)))))
  have e6 := hp _ (List.mem_cons_of_mem _ (List.mem_cons_of_mem _ (List.mem_cons_of_mem _ (List.mem_cons_of_mem _ (List.mem_cons_of_mem _ (List.mem_cons_of_mem _ List.mem_cons_self))))))
  have e7 := hp _ (List.mem_cons_of_mem _ (List.mem_cons_of_mem _ (List.mem_cons_of_mem _ (List.mem_cons_of_mem _ (List.mem_cons_of_mem _ (List.mem_cons_of_mem _ (List.mem_cons_of_mem _ List.mem_cons_self)))))))
  have hbit : ∀ (k d : Nat), d = 2 ^ (8 * k) → jP8 (v.toNat / d % 256) = (v.getLsbD (8 * k)).toNat + (v.getLsbD (8 * k + 1)).toNat + (v.getLsbD (8 * k + 2)).toNat + (v.getLsbD (8 * k + 3)).toNat + (v.getLsbD (8 * k + 4)).toNat + (v.getLsbD (8 * k + 5)).toNat + (v.getLsbD (8 * k + 6)).toNat + (v.getLsbD (8 * k + 7)).toNat := by
    rintro k _ rfl
    have hz : ∀ j, j < 8 → (v.toNat / 2 ^ (8 * k) % 256).testBit j = v.getLsbD (8 * k + j) := fun j hj => by
      rw [show (256 : Nat) = 2 ^ 8 from rfl, Nat.testBit_mod_two_pow, Nat.testBit_div_two_pow, BitVec.getLsbD, Nat.add_comm, decide_eq_true hj, Bool.true_and]
    unfold jP8
    rw [hz 0 (by decide), hz 1 (by decide), hz 2 (by decide), hz 3 (by decide), hz 4 (by decide), hz 5 (by decide), hz 6 (by decide), hz 7 (by decide)]
    rfl
  have b0 := hbit 0 1 rfl
  have b1 := hbit 1 256 rfl
  have b2 := hbit 2 65536 rfl
  have b3 := hbit 3 16777216 rfl
  have b4 := hbit 4 4294967296 rfl
  have b5 := hbit 5 1099511627776 rfl
  have b6 := hbit 6 281474976710656 rfl
  have b7 := hbit 7 72057594037927936 rfl
  rw [Nat.div_one] at b0
  have hs : jsum (fun n => (v.getLsbD n).toNat) 64 = jP8 (v.toNat % 256) + jP8 (v.toNat / 256 % 256) + jP8 (v.toNat / 65536 % 256) + jP8 (v.toNat / 16777216 % 256) + jP8 (v.toNat / 4294967296 % 256) + jP8 (v.toNat / 1099511627776 % 256) + jP8 (v.toNat / 281474976710656 % 256) + jP8 (v.toNat / 72057594037927936 % 256) := by
    rw [b0, b1, b2, b3, b4, b5, b6, b7]
    simp only [jsum, Nat.zero_add, Nat.mul_zero, Nat.reduceMul, Nat.reduceAdd, ← Nat.add_assoc]
  rw [hs]
  simp only [List.map, jV8] at ec
  clear hs b0 b1 b2 b3 b4 b5 b6 b7 hbit hp hcs hl hlt h1 s3 hb hbs
  generalize jP8 (v.toNat % 256) = p0 at *
  generalize jP8 (v.toNat / 256 % 256) = p1 at *
  generalize jP8 (v.toNat / 65536 % 256) = p2 at *
  generalize jP8 (v.toNat / 16777216 % 256) = p3 at *
  generalize jP8 (v.toNat / 4294967296 % 256) = p4 at *
  generalize jP8 (v.toNat / 1099511627776 % 256) = p5 at *
  generalize jP8 (v.toNat / 281474976710656 % 256) = p6 at *
  generalize jP8 (v.toNat / 72057594037927936 % 256) = p7 at *
  obtain ⟨d, e, f, hd, he, hf, ld, le, lf, hr⟩ := jfold (ec.trans rfl) e0 e1 e2 e3 e4 e5 e6 e7
  have g1 : (c + (c >>> 8)).toNat = d := by
    rw [BitVec.toNat_add, hsh, hd]
    exact Nat.mod_eq_of_lt (by rw [hd] at ld; exact ld)
  have g2 : (c + (c >>> 8) + ((c + (c >>> 8)) >>> 16)).toNat = e := by
    rw [BitVec.toNat_add, hsh, g1, he]
    exact Nat.mod_eq_of_lt (by rw [he] at le; exact le)
  rw [BitVec.toNat_add, hsh, g2]
  refine Eq.trans (congrArg (· % 128) (Nat.mod_eq_of_lt ?_)) ?_
  · rw [hf] at lf
    exact lf
  · rw [← hr, hf]
theorem jsum_add (t : Nat → Nat) (n : Nat) : ∀ m, jsum t (n + m) = jsum t n + jsum (fun i => t (n + i)) m
  | 0 => rfl
  | m + 1 => by
    show jsum t (n + m) + t (n + m) = jsum t n + (jsum (fun i => t (n + i)) m + t (n + m))
    rw [jsum_add t n m, Nat.add_assoc]
theorem jsum_zero {t : Nat → Nat} : ∀ n, (∀ i, i < n → t i = 0) → jsum t n = 0
  | 0, _ => rfl
  | n + 1, h => by
    show jsum t n + t n = 0
    rw [jsum_zero n (fun i hi => h i (by omega)), h n (by omega)]
theorem jsum_congr {t u : Nat → Nat} : ∀ n, (∀ i, i < n → t i = u i) → jsum t n = jsum u n
  | 0, _ => rfl
  | n + 1, h => by
    show jsum t n + t n = jsum u n + u n
    rw [jsum_congr n (fun i hi => h i (by omega)), h n (by omega)]
theorem jcn_add (c : Int) (F : Nat → Int32) (n : Nat) : ∀ m, jcn c F (n + m) = jcn c F n + jsum (fun i => if (F (n + i)).toInt = c then 0 else 1) m
  | 0 => rfl
  | m + 1 => by
    show jcn c F (n + m) + (if (F (n + m)).toInt = c then 0 else 1) = jcn c F n + (jsum (fun i => if (F (n + i)).toInt = c then 0 else 1) m + (if (F (n + m)).toInt = c then 0 else 1))
    rw [jcn_add c F n m, Nat.add_assoc]
/-- as many bits as places that are no holes -/
theorem jopen_sum {T : Nat → Bool} {H : Nat → Int32} {w h : Nat} (hw : w ≤ 6) (hh : h ≤ 6) (hH : ∀ k, k < w * h → 0 ≤ (H k).toInt ∧ (H k).toInt ≤ 1) (hb : ∀ n : Nat, T n = true ↔ ∃ a b : Nat, (a < w ∧ b < h) ∧ n = 9 + a + 8 * b ∧ (H (a + w * b)).toInt = 0) : jsum (fun n => (T n).toNat) 64 = jcn 1 H (w * h) := by
  have off : ∀ n, (¬ ∃ a b : Nat, (a < w ∧ b < h) ∧ n = 9 + a + 8 * b) → (T n).toNat = 0 := fun n hn => by
    cases hT : T n with
    | false => rfl
    | true =>
      obtain ⟨a, b, q, e, -⟩ := (hb n).mp hT
      exact absurd ⟨a, b, q, e⟩ hn
  have on : ∀ a b, a < w → b < h → (T (9 + a + 8 * b)).toNat = if (H (w * b + a)).toInt = 1 then 0 else 1 := fun a b ha hb2 => by
    have hlt : w * b + a < w * h := by
      have h1 : w * (b + 1) ≤ w * h := Nat.mul_le_mul_left _ hb2
      rw [Nat.mul_add, Nat.mul_one] at h1
      omega
    have h2 := hH _ hlt
    cases hT : T (9 + a + 8 * b) with
    | false =>
      rw [if_pos]
      · rfl
      · have h3 : ¬ (H (w * b + a)).toInt = 0 := fun z => by
          have h4 := (hb (9 + a + 8 * b)).mpr ⟨a, b, ⟨ha, hb2⟩, rfl, by rw [Nat.add_comm]; exact z⟩
          rw [hT] at h4
          cases h4
        omega
    | true =>
      obtain ⟨a2, b2, q, e, z⟩ := (hb _).mp hT
      have h3 : a2 = a := by omega
      have h4 : b2 = b := by omega
      subst h3
      subst h4
      rw [Nat.add_comm] at z
      rw [if_neg (by omega)]
      rfl
  have key : ∀ b, b ≤ h → jsum (fun n => (T n).toNat) (8 * (b + 1)) = jcn 1 H (w * b) := by
    intro b
    induction b with
    | zero =>
      intro _
      rw [Nat.mul_zero]
      exact jsum_zero _ (fun i hi => off i (fun ⟨a, b, q, e⟩ => by omega))
    | succ b ih =>
      intro hb2
      have e1 : 8 * (b + 1 + 1) = 8 * (b + 1) + (1 + (w + (7 - w))) := by omega
      rw [e1, jsum_add, ih (by omega), jsum_add, jsum_add, show w * (b + 1) = w * b + w by rw [Nat.mul_add, Nat.mul_one], jcn_add]
      rw [jsum_zero 1 (fun i hi => off _ (fun ⟨a, b, q, e⟩ => by omega)), jsum_zero (7 - w) (fun i hi => off _ (fun ⟨a, b, q, e⟩ => by omega)), Nat.zero_add, Nat.add_zero]
      refine congrArg _ (jsum_congr w (fun a ha => ?_))
      rw [← on a b ha (by omega)]
      refine congrArg (fun z => (T z).toNat) ?_
      omega
  rw [show 64 = 8 * (h + 1) + (56 - 8 * h) by omega, jsum_add, key h (Nat.le_refl _), jsum_zero (56 - 8 * h) (fun i hi => off _ (fun ⟨a, b, q, e⟩ => by omega)), Nat.add_zero]
abbrev jlsr (x : Int64) (k : Int32) : Int64 := (x.toUInt64 >>> (k.toInt64.toUInt64 &&& Int64.toUInt64 63)).toInt64
theorem jlsr_bv (x : Int64) (k : Int32) (n : Nat) (hn : n < 64) (hk : k.toInt64.toUInt64 &&& Int64.toUInt64 63 = UInt64.ofNat n) : (jlsr x k).toBitVec = x.toBitVec >>> n := by
  unfold jlsr
  rw [hk]
  show (x.toUInt64 >>> UInt64.ofNat n).toBitVec = x.toUInt64.toBitVec >>> n
  rw [UInt64.toBitVec_shiftRight]
  apply BitVec.eq_of_toNat_eq
  rw [BitVec.toNat_ushiftRight]
  show _ >>> (UInt64.ofNat n % 64).toNat = _
  rw [UInt64.toNat_mod, UInt64.toNat_ofNat']
  show _ >>> (n % 18446744073709551616 % 64) = _
  rw [Nat.mod_eq_of_lt (show n < 18446744073709551616 by omega), Nat.mod_eq_of_lt hn]
def jswr (x : Int64) : Int64 :=
  let a := x - (jlsr x 1 &&& (6148914691236517205 : Int64))
  let b := (a &&& (3689348814741910323 : Int64)) + (jlsr a 2 &&& (3689348814741910323 : Int64))
  let c := (b + jlsr b 4) &&& (1085102592571150095 : Int64)
  let d := c + jlsr c 8
  let e := d + jlsr d 16
  e + jlsr e 32
theorem jswr_bv (x : Int64) : (jswr x).toBitVec = jswar x.toBitVec := by
  unfold jswr jswar
  dsimp only
  simp only [Int64.toBitVec_add, Int64.toBitVec_sub, Int64.toBitVec_and, jlsr_bv _ 1 1 (by decide) (by decide), jlsr_bv _ 2 2 (by decide) (by decide), jlsr_bv _ 4 4 (by decide) (by decide), jlsr_bv _ 8 8 (by decide) (by decide), jlsr_bv _ 16 16 (by decide) (by decide), jlsr_bv _ 32 32 (by decide) (by decide)]
  rfl
theorem jsum_le {t : Nat → Nat} : ∀ n, (∀ i, i < n → t i ≤ 1) → jsum t n ≤ n
  | 0, _ => Nat.le_refl _
  | n + 1, h => by
    have h1 := jsum_le n (fun i hi => h i (by omega))
    have h2 := h n (by omega)
    show jsum t n + t n ≤ n + 1
    omega
theorem jbc (x : Int64) : ((jswr x).toInt32 &&& 127).toInt = ((jsum (fun n => (jbt x n).toNat) 64 : Nat) : Int) := by
  show _ = ((jsum (fun n => (x.toBitVec.getLsbD n).toNat) 64 : Nat) : Int)
  have h1 := jpop (v := x.toBitVec)
  rw [← jswr_bv] at h1
  have h2 := jsum_le (t := fun n => (x.toBitVec.getLsbD n).toNat) 64 (fun i _ => by cases x.toBitVec.getLsbD i <;> decide)
  have h3 : ((jswr x).toInt32 &&& 127).toBitVec.toNat = (jswr x).toBitVec.toNat % 128 := by
    rw [Int32.toBitVec_and, BitVec.toNat_and]
    show ((jswr x).toInt32.toBitVec.toNat) &&& 127 = _
    rw [show (127 : Nat) = 2 ^ 7 - 1 from rfl, Nat.and_two_pow_sub_one_eq_mod]
    show ((jswr x).toInt32.toBitVec.toNat) % 128 = _
    have h4 : (jswr x).toInt32.toBitVec.toNat = (jswr x).toBitVec.toNat % 4294967296 := by
      have h5 : (jswr x).toInt32.toBitVec = (jswr x).toBitVec.signExtend 32 := Int64.toBitVec_toInt32 _
      rw [h5, BitVec.signExtend_eq_setWidth_of_le _ (by decide), BitVec.toNat_setWidth]
    rw [h4]
    omega
  have h6 : ((jswr x).toInt32 &&& 127).toInt = ((((jswr x).toInt32 &&& 127).toBitVec.toNat : Nat) : Int) := by
    show ((jswr x).toInt32 &&& 127).toBitVec.toInt = _
    rw [BitVec.toInt_eq_toNat_of_lt]
    rw [h3]
    omega
  rw [h6, h3, h1]
/-! walks: where a row of directions leads -/
def jsx (g d : Int) : Int := if g = 0 then (if d = 0 then 1 else if d = 2 then -1 else 0) else if g = 1 then (if d = 0 ∨ d = 5 then 1 else if d = 2 ∨ d = 3 then -1 else 0) else if g = 2 then (if d = 0 then 1 else if d = 1 then -1 else 0) else (if d = 0 then 1 else if d = 3 then -1 else 0)
def jsy (g d s : Int) : Int := if g = 0 then (if d = 1 then 1 else if d = 3 then -1 else 0) else if g = 1 then (if d = 1 ∨ d = 2 then 1 else if d = 4 ∨ d = 5 then -1 else 0) else if g = 2 then (if d < 2 then 0 else if s % 2 = 0 then 1 else -1) else (if d = 1 then 1 else if d = 4 then -1 else 0)
def jsz (g d : Int) : Int := if g = 3 then (if d = 2 then 1 else if d = 5 then -1 else 0) else 0
theorem jsx_b (g d : Int) : -1 ≤ jsx g d ∧ jsx g d ≤ 1 := by unfold jsx; constructor <;> (repeat' split) <;> omega
theorem jsy_b (g d s : Int) : -1 ≤ jsy g d s ∧ jsy g d s ≤ 1 := by unfold jsy; constructor <;> (repeat' split) <;> omega
theorem jsz_b (g d : Int) : -1 ≤ jsz g d ∧ jsz g d ≤ 1 := by unfold jsz; constructor <;> (repeat' split) <;> omega
def jPt (g : Int) (T : Nat → Int) : Nat → Int × Int × Int
  | 0 => (0, 0, 0)
  | i + 1 => ((jPt g T i).1 + jsx g (T i), (jPt g T i).2.1 + jsy g (T i) ((jPt g T i).1 + (jPt g T i).2.1), (jPt g T i).2.2 + jsz g (T i))
/-- no place twice -/
def jav (g : Int) (T : Nat → Int) (n : Nat) : Prop := ∀ i j : Nat, i < j → j ≤ n → ¬ jPt g T i = jPt g T j
theorem jPt_b (g : Int) (T : Nat → Int) : ∀ i : Nat, (-(i : Int) ≤ (jPt g T i).1 ∧ (jPt g T i).1 ≤ i) ∧ (-(i : Int) ≤ (jPt g T i).2.1 ∧ (jPt g T i).2.1 ≤ i) ∧ (-(i : Int) ≤ (jPt g T i).2.2 ∧ (jPt g T i).2.2 ≤ i)
  | 0 => by
    simp only [jPt]
    omega
  | i + 1 => by
    have h := jPt_b g T i
    have h1 := jsx_b g (T i)
    have h2 := jsy_b g (T i) ((jPt g T i).1 + (jPt g T i).2.1)
    have h3 := jsz_b g (T i)
    simp only [jPt]
    omega
theorem jPt_congr {g : Int} {T U : Nat → Int} : ∀ i : Nat, (∀ k, k < i → T k = U k) → jPt g T i = jPt g U i
  | 0, _ => rfl
  | i + 1, h => by
    simp only [jPt]
    rw [jPt_congr i (fun k hk => h k (by omega)), h i (by omega)]
theorem jav.congr {g : Int} {T U : Nat → Int} {n : Nat} (h : ∀ k, k < n → T k = U k) (ha : jav g T n) : jav g U n := fun i j hi hj => by
  rw [← jPt_congr i (fun k hk => h k (by omega)), ← jPt_congr j (fun k hk => h k (by omega))]
  exact ha i j hi hj
theorem jav.mono {g : Int} {T : Nat → Int} {n m : Nat} (h : jav g T n) (hm : m ≤ n) : jav g T m := fun i j hi hj => h i j hi (by omega)
theorem jav.zero {g : Int} {T : Nat → Int} : jav g T 0 := fun i j hi hj => by omega
theorem jav_succ {g : Int} {T : Nat → Int} {n : Nat} : jav g T (n + 1) ↔ jav g T n ∧ ∀ i, i ≤ n → ¬ jPt g T i = jPt g T (n + 1) := by
  constructor
  · intro h
    exact ⟨h.mono (by omega), fun i hi => h i (n + 1) (by omega) (Nat.le_refl _)⟩
  · rintro ⟨h1, h2⟩ i j hi hj
    by_cases e : j = n + 1
    · subst e
      exact h2 i (by omega)
    · exact h1 i j hi (by omega)
def jopp (g d : Int) : Int := if g = 2 then (if d = 2 then 2 else 1 - d) else if g = 0 then (if d < 2 then d + 2 else d - 2) else (if d < 3 then d + 3 else d - 3)
theorem jopp_b {g d : Int} (h0 : 0 ≤ d) (h1 : d < jdir g) : 0 ≤ jopp g d ∧ jopp g d < jdir g := by
  unfold jdir jopp at *
  constructor <;> (repeat' split) <;> (repeat' split at h1) <;> omega
theorem jopp_x {g d : Int} (hg : 0 ≤ g) (hg3 : g ≤ 3) (h0 : 0 ≤ d) (h1 : d < jdir g) : jsx g (jopp g d) = - jsx g d := by
  have hg4 : g = 0 ∨ g = 1 ∨ g = 2 ∨ g = 3 := by omega
  rcases hg4 with rfl | rfl | rfl | rfl
  · have h1 : d < 4 := h1
    have hd : d = 0 ∨ d = 1 ∨ d = 2 ∨ d = 3 := by omega
    rcases hd with rfl | rfl | rfl | rfl <;> rfl
  · have h1 : d < 6 := h1
    have hd : d = 0 ∨ d = 1 ∨ d = 2 ∨ d = 3 ∨ d = 4 ∨ d = 5 := by omega
    rcases hd with rfl | rfl | rfl | rfl | rfl | rfl <;> rfl
  · have h1 : d < 3 := h1
    have hd : d = 0 ∨ d = 1 ∨ d = 2 := by omega
    rcases hd with rfl | rfl | rfl <;> rfl
  · have h1 : d < 6 := h1
    have hd : d = 0 ∨ d = 1 ∨ d = 2 ∨ d = 3 ∨ d = 4 ∨ d = 5 := by omega
    rcases hd with rfl | rfl | rfl | rfl | rfl | rfl <;> rfl
theorem jopp_z {g d : Int} (hg : 0 ≤ g) (hg3 : g ≤ 3) (h0 : 0 ≤ d) (h1 : d < jdir g) : jsz g (jopp g d) = - jsz g d := by
  have hg4 : g = 0 ∨ g = 1 ∨ g = 2 ∨ g = 3 := by omega
  rcases hg4 with rfl | rfl | rfl | rfl
  · rfl
  · rfl
  · rfl
  · have h1 : d < 6 := h1
    have hd : d = 0 ∨ d = 1 ∨ d = 2 ∨ d = 3 ∨ d = 4 ∨ d = 5 := by omega
    rcases hd with rfl | rfl | rfl | rfl | rfl | rfl <;> rfl
theorem jopp_y {g d s u : Int} (hg : 0 ≤ g) (hg3 : g ≤ 3) (h0 : 0 ≤ d) (h1 : d < jdir g) (hs : g = 2 → d = 2 → (s % 2 = 0 ↔ ¬ u % 2 = 0)) : jsy g (jopp g d) u = - jsy g d s := by
  have hg4 : g = 0 ∨ g = 1 ∨ g = 2 ∨ g = 3 := by omega
  rcases hg4 with rfl | rfl | rfl | rfl
  · have h1 : d < 4 := h1
    have hd : d = 0 ∨ d = 1 ∨ d = 2 ∨ d = 3 := by omega
    rcases hd with rfl | rfl | rfl | rfl <;> rfl
  · have h1 : d < 6 := h1
    have hd : d = 0 ∨ d = 1 ∨ d = 2 ∨ d = 3 ∨ d = 4 ∨ d = 5 := by omega
    rcases hd with rfl | rfl | rfl | rfl | rfl | rfl <;> rfl
  · have h1 : d < 3 := h1
    have hd : d = 0 ∨ d = 1 ∨ d = 2 := by omega
    rcases hd with rfl | rfl | rfl
    · rfl
    · rfl
    · have q := hs rfl rfl
      show (if u % 2 = 0 then (1 : Int) else -1) = - (if s % 2 = 0 then (1 : Int) else -1)
      by_cases c : s % 2 = 0
      · rw [if_pos c, if_neg (q.mp c)]
      · rw [if_neg c, if_pos (by omega)]
        rfl
  · have h1 : d < 6 := h1
    have hd : d = 0 ∨ d = 1 ∨ d = 2 ∨ d = 3 ∨ d = 4 ∨ d = 5 := by omega
    rcases hd with rfl | rfl | rfl | rfl | rfl | rfl <;> rfl
/-- a walk gone back -/
theorem jback {g : Int} {T U : Nat → Int} {n : Nat} (hg : 0 ≤ g) (hg3 : g ≤ 3) (hT : ∀ i, i < n → 0 ≤ T i ∧ T i < jdir g) (hp : g = 2 → ((jPt g T n).1 + (jPt g T n).2.1) % 2 = 0) (hU : ∀ i, i < n → U i = jopp g (T (n - 1 - i))) : ∀ i, i ≤ n → (jPt g U i).1 = (jPt g T (n - i)).1 - (jPt g T n).1 ∧ (jPt g U i).2.1 = (jPt g T (n - i)).2.1 - (jPt g T n).2.1 ∧ (jPt g U i).2.2 = (jPt g T (n - i)).2.2 - (jPt g T n).2.2
  | 0, _ => by simp [jPt]
  | i + 1, hi => by
    obtain ⟨h1, h2, h3⟩ := jback hg hg3 hT hp hU i (by omega)
    have e : n - i = (n - 1 - i) + 1 := by omega
    have e2 : n - (i + 1) = n - 1 - i := by omega
    have hr := hT (n - 1 - i) (by omega)
    rw [e] at h1 h2 h3
    rw [e2]
    simp only [jPt] at h1 h2 h3 ⊢
    rw [hU i (by omega), jopp_x hg hg3 hr.1 hr.2, jopp_z hg hg3 hr.1 hr.2, jopp_y (s := (jPt g T (n - 1 - i)).1 + (jPt g T (n - 1 - i)).2.1) hg hg3 hr.1 hr.2 (fun q1 q2 => by
      have q3 := hp q1
      rw [h1, h2, q2]
      have q4 : jsx g 2 = 0 := by rw [q1]; rfl
      have q5 : jsy g 2 ((jPt g T (n - 1 - i)).1 + (jPt g T (n - 1 - i)).2.1) = 1 ∨ jsy g 2 ((jPt g T (n - 1 - i)).1 + (jPt g T (n - 1 - i)).2.1) = -1 := by
        rw [q1]
        show (if _ then (1 : Int) else -1) = 1 ∨ (if _ then (1 : Int) else -1) = -1
        split
        · exact Or.inl rfl
        · exact Or.inr rfl
      rw [q4]
      omega), h1, h2, h3]
    omega
theorem jav.back {g : Int} {T U : Nat → Int} {n : Nat} (hg : 0 ≤ g) (hg3 : g ≤ 3) (hT : ∀ i, i < n → 0 ≤ T i ∧ T i < jdir g) (hp : g = 2 → ((jPt g T n).1 + (jPt g T n).2.1) % 2 = 0) (hU : ∀ i, i < n → U i = jopp g (T (n - 1 - i))) (ha : jav g T n) : jav g U n := fun i j hi hj he => by
  obtain ⟨a1, a2, a3⟩ := jback hg hg3 hT hp hU i (by omega)
  obtain ⟨b1, b2, b3⟩ := jback hg hg3 hT hp hU j (by omega)
  refine ha (n - j) (n - i) (by omega) (by omega) ?_
  rw [he] at a1 a2 a3
  exact Prod.ext (by omega) (Prod.ext (by omega) (by omega))
/-- places in three arrays -/
def jrv (g : Int) (T : Nat → Int) (n : Nat) (X Y Z : Nat → Int32) : Prop := ∀ i, i ≤ n → (X i).toInt = (jPt g T i).1 ∧ (Y i).toInt = (jPt g T i).2.1 ∧ (Z i).toInt = (jPt g T i).2.2
theorem jrv.lay {g : Int} {T : Nat → Int} {n : Nat} {X Y Z X2 Y2 Z2 : Nat → Int32} (h : jrv g T n X Y Z) (hx : (X2 (n + 1)).toInt = (X n).toInt + jsx g (T n)) (hy : (Y2 (n + 1)).toInt = (Y n).toInt + jsy g (T n) ((X n).toInt + (Y n).toInt)) (hz : (Z2 (n + 1)).toInt = (Z n).toInt + jsz g (T n)) (ox : ∀ i, i ≠ n + 1 → X2 i = X i) (oy : ∀ i, i ≠ n + 1 → Y2 i = Y i) (oz : ∀ i, i ≠ n + 1 → Z2 i = Z i) : jrv g T (n + 1) X2 Y2 Z2 := fun i hi => by
  by_cases e : i = n + 1
  · subst e
    have q := h n (Nat.le_refl _)
    simp only [jPt]
    rw [hx, hy, hz, q.1, q.2.1, q.2.2]
    exact ⟨rfl, rfl, rfl⟩
  · rw [ox i e, oy i e, oz i e]
    exact h i (by omega)
theorem jrv.congr {g : Int} {T U : Nat → Int} {n : Nat} {X Y Z : Nat → Int32} (h : jrv g T n X Y Z) (he : ∀ k, k < n → T k = U k) : jrv g U n X Y Z := fun i hi => by
  rw [← jPt_congr i (fun k hk => he k (by omega))]
  exact h i hi
theorem jrv.cut {g : Int} {T : Nat → Int} {n m : Nat} {X Y Z : Nat → Int32} (h : jrv g T n X Y Z) (hm : m ≤ n) : jrv g T m X Y Z := fun i hi => h i (by omega)
theorem jrv.b {g : Int} {T : Nat → Int} {n : Nat} {X Y Z : Nat → Int32} (h : jrv g T n X Y Z) : ∀ i, i ≤ n → (-(i : Int) ≤ (X i).toInt ∧ (X i).toInt ≤ i) ∧ (-(i : Int) ≤ (Y i).toInt ∧ (Y i).toInt ≤ i) ∧ (-(i : Int) ≤ (Z i).toInt ∧ (Z i).toInt ≤ i) := fun i hi => by
  rw [(h i hi).1, (h i hi).2.1, (h i hi).2.2]
  exact jPt_b g T i
theorem jrv.eq {g : Int} {T : Nat → Int} {n : Nat} {X Y Z : Nat → Int32} (h : jrv g T n X Y Z) {i j : Nat} (hi : i ≤ n) (hj : j ≤ n) : jPt g T i = jPt g T j ↔ (X i).toInt = (X j).toInt ∧ (Y i).toInt = (Y j).toInt ∧ (Z i).toInt = (Z j).toInt := by
  rw [(h i hi).1, (h i hi).2.1, (h i hi).2.2, (h j hj).1, (h j hj).2.1, (h j hj).2.2]
  exact ⟨fun q => by rw [q]; exact ⟨rfl, rfl, rfl⟩, fun ⟨a, b, c⟩ => Prod.ext a (Prod.ext b c)⟩
/-- the next place, met before or not -/
theorem jrv.next {g : Int} {T : Nat → Int} {n : Nat} {X Y Z : Nat → Int32} (h : jrv g T n X Y Z) {i : Nat} (hi : i ≤ n) : jPt g T i = jPt g T (n + 1) ↔ (X i).toInt = (X n).toInt + jsx g (T n) ∧ (Y i).toInt = (Y n).toInt + jsy g (T n) ((X n).toInt + (Y n).toInt) ∧ (Z i).toInt = (Z n).toInt + jsz g (T n) := by
  simp only [jPt]
  rw [(h i hi).1, (h i hi).2.1, (h i hi).2.2, (h n (Nat.le_refl _)).1, (h n (Nat.le_refl _)).2.1, (h n (Nat.le_refl _)).2.2]
  exact ⟨fun q => by rw [q]; exact ⟨rfl, rfl, rfl⟩, fun ⟨a, b, c⟩ => Prod.ext a (Prod.ext b c)⟩
theorem jnat {x : Int32} {n : Nat} (h0 : 0 ≤ x.toInt) (h1 : x.toInt < (n : Int)) (hn : n ≤ 1000) : ∃ a : Nat, a < n ∧ x = Int32.ofNat a := ⟨x.toInt.toNat, by omega, jI_inj.mp (by show x.toInt = (nI x.toInt.toNat).toInt; rw [nI_toInt (by omega)]; omega)⟩
/-- the axis that stands k-th in an order of axes -/
def jax (o k : Int) : Int := if k = 0 then o / 2 else if (k = 1 ↔ o % 2 = 0) then (if o / 2 = 0 then 1 else 0) else (if o / 2 = 2 then 1 else 2)
def jtc (t d : Int) : Int := jax (t / 8) (d % 3) + (if (2 < d ↔ ¬ ((t % 8) / (if d % 3 = 0 then 1 else if d % 3 = 1 then 2 else 4)) % 2 = 1) then 3 else 0)
/-- the direction that a turn gives -/
def jtn (g t d : Int) : Int := if g = 2 then d else if g = 3 then jtc t d else if t < jdir g then (if jdir g ≤ d + t then d + t - jdir g else d + t) else (if jdir g ≤ t - d then t - d - jdir g else t - d)
def jaxI (o k : Int32) : Int32 := Int32.ofInt (jax o.toInt k.toInt)
theorem jtc_b : ∀ t d : Int, 0 ≤ t → t < 48 → 0 ≤ d → d < 6 → 0 ≤ jtc t d ∧ jtc t d < 6 := by
  have h : ∀ a : Nat, a < 48 → ∀ b : Nat, b < 6 → 0 ≤ jtc (a : Int) (b : Int) ∧ jtc (a : Int) (b : Int) < 6 := by decide +kernel
  intro t d h0 h1 h2 h3
  have q := h t.toNat (by omega) d.toNat (by omega)
  rw [Int.toNat_of_nonneg h0, Int.toNat_of_nonneg h2] at q
  exact q
theorem jtn_b {g t d : Int} (hg : 0 ≤ g) (hg3 : g ≤ 3) (h0 : 0 ≤ t) (h1 : t < jtur g) (h2 : 0 ≤ d) (h3 : d < jdir g) : 0 ≤ jtn g t d ∧ jtn g t d < jdir g := by
  have hg4 : g = 0 ∨ g = 1 ∨ g = 2 ∨ g = 3 := by omega
  rcases hg4 with rfl | rfl | rfl | rfl
  · have h1 : t < 8 := h1
    have h3 : d < 4 := h3
    have e : jdir 0 = 4 := rfl
    unfold jtn
    rw [if_neg (by decide), if_neg (by decide), e]
    (repeat' split) <;> omega
  · have h1 : t < 12 := h1
    have h3 : d < 6 := h3
    have e : jdir 1 = 6 := rfl
    unfold jtn
    rw [if_neg (by decide), if_neg (by decide), e]
    (repeat' split) <;> omega
  · exact ⟨h2, h3⟩
  · exact jtc_b t d h0 h1 h2 h3
/-- the last bit -/
theorem jand1 (x : Int32) : (x &&& 1).toInt = x.toInt % 2 := by
  have h1 : (x &&& 1).toBitVec.toNat = x.toBitVec.toNat % 2 := by
    rw [Int32.toBitVec_and, BitVec.toNat_and]
    show x.toBitVec.toNat &&& 1 = _
    rw [Nat.and_one_is_mod]
  have h2 : (x &&& 1).toInt = ((x &&& 1).toBitVec.toNat : Int) := by
    show (x &&& 1).toBitVec.toInt = _
    rw [BitVec.toInt_eq_toNat_of_lt]
    rw [h1]
    omega
  have h3 : x.toInt = x.toBitVec.toInt := rfl
  rw [h2, h1, h3, BitVec.toInt_eq_toNat_cond]
  split <;> omega
theorem jtab_x : ∀ a : Nat, a < 4 → ∀ b : Nat, b < 6 → (jSv0.getD (6 * a + b) 0).toInt = jsx (a : Int) (b : Int) := by decide +kernel
theorem jtab_y : ∀ a : Nat, a < 4 → ∀ b : Nat, b < 6 → (b : Int) < jdir (a : Int) → ¬ (a = 2 ∧ b = 2) → (jSv1.getD (6 * a + b) 0).toInt = jsy (a : Int) (b : Int) 0 := by decide +kernel
theorem jsy_in {g d s : Int} (h : ¬ (g = 2 ∧ d = 2)) (h1 : d < jdir g) : jsy g d s = jsy g d 0 := by
  unfold jsy jdir at *
  (repeat' split) <;> (repeat' split at h1) <;> omega
theorem jtabx {g d i : Int32} (hg : 0 ≤ g.toInt) (hg3 : g.toInt ≤ 3) (h0 : 0 ≤ d.toInt) (h1 : d.toInt < 6) (hi : i.toInt = 6 * g.toInt + d.toInt) : (jSv0.getD i.toNatClampNeg 0).toInt = jsx g.toInt d.toInt := by
  have q := jtab_x g.toInt.toNat (by omega) d.toInt.toNat (by omega)
  rw [Int.toNat_of_nonneg hg, Int.toNat_of_nonneg h0] at q
  rw [← q]
  have e : i.toNatClampNeg = 6 * g.toInt.toNat + d.toInt.toNat := by
    show i.toInt.toNat = _
    omega
  rw [e]
theorem jtaby {g d i : Int32} (s : Int) (hg : 0 ≤ g.toInt) (hg3 : g.toInt ≤ 3) (h0 : 0 ≤ d.toInt) (h1 : d.toInt < jdir g.toInt) (hi : i.toInt = 6 * g.toInt + d.toInt) (hn : ¬ (g.toInt = 2 ∧ d.toInt = 2)) : (jSv1.getD i.toNatClampNeg 0).toInt = jsy g.toInt d.toInt s := by
  have hd := jdir_cases g.toInt
  have q := jtab_y g.toInt.toNat (by omega) d.toInt.toNat (by omega) (by rw [Int.toNat_of_nonneg hg, Int.toNat_of_nonneg h0]; exact h1) (by omega)
  rw [Int.toNat_of_nonneg hg, Int.toNat_of_nonneg h0] at q
  rw [jsy_in hn h1, ← q]
  have e : i.toNatClampNeg = 6 * g.toInt.toNat + d.toInt.toNat := by
    show i.toInt.toNat = _
    omega
  rw [e]
theorem jsy_22 (s : Int) : jsy 2 2 s = if s % 2 = 0 then 1 else -1 := rfl
theorem jmaxi {x y : Int32} {a b : Int} (hx : jEq x.toInt a) (hy : jEq y.toInt b) : a ≤ (if x < y then y else x).toInt ∧ b ≤ (if x < y then y else x).toInt ∧ ((if x < y then y else x).toInt = a ∨ (if x < y then y else x).toInt = b) := by
  cases hx
  cases hy
  split
  · rename_i h
    rw [jlt] at h
    omega
  · rename_i h
    rw [jlt] at h
    omega
theorem jmini {x y : Int32} {a b : Int} (hx : jEq x.toInt a) (hy : jEq y.toInt b) : (if y < x then y else x).toInt ≤ a ∧ (if y < x then y else x).toInt ≤ b ∧ ((if y < x then y else x).toInt = a ∨ (if y < x then y else x).toInt = b) := by
  cases hx
  cases hy
  split
  · rename_i h
    rw [jlt] at h
    omega
  · rename_i h
    rw [jlt] at h
    omega
theorem jrv.av {g : Int} {T : Nat → Int} {n : Nat} {X Y Z : Nat → Int32} (h : jrv g T (n + 1) X Y Z) : jav g T (n + 1) ↔ jav g T n ∧ ∀ j : Nat, j ≤ n → ¬ ((X j).toInt = (X (n + 1)).toInt ∧ (Y j).toInt = (Y (n + 1)).toInt ∧ (Z j).toInt = (Z (n + 1)).toInt) := by
  rw [jav_succ]
  exact ⟨fun ⟨a, b⟩ => ⟨a, fun j hj q => b j hj ((h.eq (by omega) (Nat.le_refl _)).mpr q)⟩, fun ⟨a, b⟩ => ⟨a, fun j hj q => b j hj ((h.eq (by omega) (Nat.le_refl _)).mp q)⟩⟩
/-! what becomes of a row of directions -/
def jTs (T : Nat → Int) (n : Nat) (d : Int) : Nat → Int := fun q => if q < n then T q else d
def jTp (g t k : Int) (T : Nat → Int) : Nat → Int := fun q => if (q : Int) < k then T q else jtn g t (T q)
def jTj (T : Nat → Int) (n : Nat) (U : Nat → Int) : Nat → Int := fun q => if q < n then T q else U (q - n)
def jTb (g : Int) (T : Nat → Int) (n : Nat) : Nat → Int := fun q => jopp g (T (n - 1 - q))
theorem jTs_row {R S : Nat → Int32} {b n : Nat} {d : Int32} (h : ∀ j : Nat, j < n → R j = S (b + j)) (hd : R n = d) : ∀ k : Nat, k < n + 1 → (R k).toInt = jTs (fun q => (S (b + q)).toInt) n d.toInt k := fun k hk => by
  unfold jTs
  by_cases c : k < n
  · rw [if_pos c, h k c]
  · rw [if_neg c, show k = n by omega, hd]
theorem jav_not {g : Int} {T : Nat → Int} {n : Nat} (h : jav g T n) (hn : ¬ jav g T (n + 1)) : ∃ i : Nat, i ≤ n ∧ jPt g T i = jPt g T (n + 1) := by
  apply Classical.byContradiction
  intro q
  exact hn (jav_succ.mpr ⟨h, fun i hi e => q ⟨i, hi, e⟩⟩)
/-! digests -/
def jdg (F : Nat → Int32) : Nat → Int64 → Int64
  | 0, h => h
  | n + 1, h => 31 * jdg F n h + (F n).toInt64
theorem jdg_congr {F G : Nat → Int32} : ∀ (n : Nat) (h : Int64), (∀ k, k < n → F k = G k) → jdg F n h = jdg G n h
  | 0, _, _ => rfl
  | n + 1, h, q => by
    show 31 * jdg F n h + (F n).toInt64 = 31 * jdg G n h + (G n).toInt64
    rw [jdg_congr n h (fun k hk => q k (by omega)), q n (by omega)]
def jdw (GA MN SP : Nat → Int32) : Nat → Int64 → Int64
  | 0, h => h
  | w + 1, h => jdg (fun q => SP (60 * w + q)) (MN w).toInt.toNat (31 * jdw GA MN SP w h + (GA w).toInt64)
def jdh (Q : Nat → Bool) : Nat → Int64 → Int64
  | 0, h => h
  | k + 1, h => if Q k then 31 * jdh Q k h + (Int32.ofNat k).toInt64 else jdh Q k h
theorem jdh_congr {P Q : Nat → Bool} : ∀ (n : Nat) (h : Int64), (∀ k, k < n → P k = Q k) → jdh P n h = jdh Q n h
  | 0, _, _ => rfl
  | n + 1, h, q => by
    show (if P n then 31 * jdh P n h + (Int32.ofNat n).toInt64 else jdh P n h) = (if Q n then 31 * jdh Q n h + (Int32.ofNat n).toInt64 else jdh Q n h)
    rw [jdh_congr n h (fun k hk => q k (by omega)), q n (by omega)]
theorem jdh_yes {Q : Nat → Bool} {k : Nat} {h : Int64} {v : Int32} (hq : Q k = true) (hv : v.toInt = (k : Int)) (hk : k < 1000) : jdh Q (k + 1) h = 31 * jdh Q k h + v.toInt64 := by
  show (if Q k then 31 * jdh Q k h + (Int32.ofNat k).toInt64 else jdh Q k h) = _
  rw [if_pos hq, show Int32.ofNat k = v from jI_inj.mp (by show (nI k).toInt = v.toInt; rw [nI_toInt (by omega), hv])]
theorem jdh_no {Q : Nat → Bool} {k : Nat} {h : Int64} (hq : Q k = false) : jdh Q (k + 1) h = jdh Q k h := by
  show (if Q k then 31 * jdh Q k h + (Int32.ofNat k).toInt64 else jdh Q k h) = _
  rw [hq]
  rfl
theorem jdivmod {w x y : Nat} (hx : x < w) : (w * y + x) % w = x ∧ (w * y + x) / w = y := by
  have hw : 0 < w := by omega
  exact ⟨by rw [Nat.mul_add_mod, Nat.mod_eq_of_lt hx], by rw [Nat.mul_add_div hw, Nat.div_eq_of_lt hx, Nat.add_zero]⟩
theorem jcell_nat2 {w y : Int} (hw : 0 ≤ w) (hy : 0 ≤ y) : ((w.toNat * y.toNat : Nat) : Int) = w * y := by
  rw [Int.natCast_mul, Int.toNat_of_nonneg hw, Int.toNat_of_nonneg hy]
def jC4 (a b c d : Int32) : Nat → Int32 := fun i => if i = 0 then a else if i = 1 then b else if i = 2 then c else d
theorem jband {a b : Bool} (h1 : a = true) (h2 : b = true) : (a && b) = true := by rw [h1, h2]; rfl
theorem jdiv8 {x : Int32} (h0 : 0 ≤ x.toInt) (h1 : x.toInt < 48) : 0 ≤ (x / 8).toInt ∧ (x / 8).toInt < 6 := by
  obtain ⟨a, ha, rfl⟩ := jnat (n := 48) h0 h1 (by decide)
  clear h0 h1
  revert a
  decide +kernel
theorem jmod3 {x : Int32} (h0 : 0 ≤ x.toInt) (h1 : x.toInt < 6) : 0 ≤ (x - x / 3 * 3).toInt ∧ (x - x / 3 * 3).toInt < 3 := by
  obtain ⟨a, ha, rfl⟩ := jnat (n := 6) h0 h1 (by decide)
  clear h0 h1
  revert a
  decide +kernel
/-! forms: the least of a row's images -/
def jim (g : Int) (T : Nat → Int) (n : Nat) (t : Int) (b : Bool) : Nat → Int := fun i => jtn g t (if b then jopp g (T (n - 1 - i)) else T i)
def jlx (n : Nat) (F B : Nat → Int) : Prop := ∃ i : Nat, i < n ∧ (∀ j : Nat, j < i → F j = B j) ∧ F i < B i
noncomputable def jbs (g : Int) (T : Nat → Int) (n : Nat) : Nat → Nat → Int
  | 0 => T
  | k + 1 => @ite _ (jlx n (jim g T n ((k / 2 : Nat) : Int) (decide (k % 2 = 1))) (jbs g T n k)) (Classical.propDecidable _) (jim g T n ((k / 2 : Nat) : Int) (decide (k % 2 = 1))) (jbs g T n k)
theorem jbs_yes {g : Int} {T : Nat → Int} {n k : Nat} (h : jlx n (jim g T n ((k / 2 : Nat) : Int) (decide (k % 2 = 1))) (jbs g T n k)) : jbs g T n (k + 1) = jim g T n ((k / 2 : Nat) : Int) (decide (k % 2 = 1)) := @if_pos _ (Classical.propDecidable _) h _ _ _
theorem jbs_no {g : Int} {T : Nat → Int} {n k : Nat} (h : ¬ jlx n (jim g T n ((k / 2 : Nat) : Int) (decide (k % 2 = 1))) (jbs g T n k)) : jbs g T n (k + 1) = jbs g T n k := @if_neg _ (Classical.propDecidable _) h _ _ _
theorem jim_b {g t : Int} {T : Nat → Int} {n : Nat} {b : Bool} (hg : 0 ≤ g ∧ g ≤ 3) (ht : 0 ≤ t ∧ t < jtur g) (hT : ∀ j, j < n → 0 ≤ T j ∧ T j < jdir g) {i : Nat} (hi : i < n) : 0 ≤ jim g T n t b i ∧ jim g T n t b i < jdir g := by
  unfold jim
  cases b with
  | true =>
    have q := hT (n - 1 - i) (by omega)
    have q2 := jopp_b q.1 q.2
    exact jtn_b hg.1 hg.2 ht.1 ht.2 q2.1 q2.2
  | false =>
    have q := hT i hi
    exact jtn_b hg.1 hg.2 ht.1 ht.2 q.1 q.2
theorem jim_congr {g t : Int} {T U : Nat → Int} {n : Nat} {b : Bool} (h : ∀ q, q < n → T q = U q) : ∀ i, i < n → jim g T n t b i = jim g U n t b i := fun i hi => by
  unfold jim
  rw [h i hi, h (n - 1 - i) (by omega)]
theorem jlx_congr {n : Nat} {F G B C : Nat → Int} (h1 : ∀ i, i < n → F i = G i) (h2 : ∀ i, i < n → B i = C i) : jlx n F B ↔ jlx n G C := by
  have one : ∀ {F G B C : Nat → Int}, (∀ i, i < n → F i = G i) → (∀ i, i < n → B i = C i) → jlx n F B → jlx n G C := fun h1 h2 ⟨i, hi, q, e⟩ => ⟨i, hi, fun j hj => by rw [← h1 j (by omega), ← h2 j (by omega)]; exact q j hj, by rw [← h1 i hi, ← h2 i hi]; exact e⟩
  exact ⟨one h1 h2, one (fun i hi => (h1 i hi).symm) (fun i hi => (h2 i hi).symm)⟩
theorem jlx_at {n i : Nat} {F B : Nat → Int} (hi : i < n) (he : ∀ j, j < i → F j = B j) (hn : ¬ F i = B i) : jlx n F B ↔ F i < B i := by
  constructor
  · rintro ⟨k, hk, q, e⟩
    rcases Nat.lt_trichotomy k i with h | h | h
    · rw [he k h] at e
      exact absurd e (Int.lt_irrefl _)
    · subst h
      exact e
    · exact absurd (q i h) hn
  · intro e
    exact ⟨i, hi, he, e⟩
theorem jlx_eq {n : Nat} {F B : Nat → Int} (he : ∀ j, j < n → F j = B j) : ¬ jlx n F B := by
  rintro ⟨k, hk, -, e⟩
  rw [he k hk] at e
  exact Int.lt_irrefl _ e
theorem jbs_b {g : Int} {T : Nat → Int} {n : Nat} (hg : 0 ≤ g ∧ g ≤ 3) (hT : ∀ j, j < n → 0 ≤ T j ∧ T j < jdir g) : ∀ k : Nat, (k : Int) ≤ 2 * jtur g → ∀ j, j < n → 0 ≤ jbs g T n k j ∧ jbs g T n k j < jdir g
  | 0, _ => hT
  | k + 1, hk => fun j hj => by
    by_cases c : jlx n (jim g T n ((k / 2 : Nat) : Int) (decide (k % 2 = 1))) (jbs g T n k)
    · rw [jbs_yes c]
      exact jim_b hg (by omega) hT hj
    · rw [jbs_no c]
      exact jbs_b hg hT k (by omega) j hj
theorem jbs_congr {g : Int} {T U : Nat → Int} {n : Nat} (h : ∀ q, q < n → T q = U q) : ∀ k j : Nat, j < n → jbs g T n k j = jbs g U n k j
  | 0, j, hj => h j hj
  | k + 1, j, hj => by
    have e1 := jim_congr (g := g) (t := ((k / 2 : Nat) : Int)) (b := decide (k % 2 = 1)) h
    have e2 := jlx_congr e1 (jbs_congr (g := g) h k)
    by_cases c : jlx n (jim g T n ((k / 2 : Nat) : Int) (decide (k % 2 = 1))) (jbs g T n k)
    · rw [jbs_yes c, jbs_yes (e2.mp c)]
      exact e1 j hj
    · rw [jbs_no c, jbs_no (fun z => c (e2.mpr z))]
      exact jbs_congr h k j hj
theorem jbs_step {g t : Int} {T : Nat → Int} {n K : Nat} {b : Bool} {B B2 : Nat → Int32} (hK : ((K / 2 : Nat) : Int) = t) (hb : decide (K % 2 = 1) = b) (h : ∀ j : Nat, j < n → (B j).toInt = jbs g T n K j) (hy : jlx n (jim g T n t b) (fun q => (B q).toInt) → ∀ j : Nat, j < n → (B2 j).toInt = jim g T n t b j) (hn : ¬ jlx n (jim g T n t b) (fun q => (B q).toInt) → ∀ j : Nat, j < n → B2 j = B j) : ∀ j : Nat, j < n → (B2 j).toInt = jbs g T n (K + 1) j := fun j hj => by
  subst hK
  subst hb
  have e := jlx_congr (n := n) (F := jim g T n ((K / 2 : Nat) : Int) (decide (K % 2 = 1))) (fun _ _ => rfl) h
  by_cases c : jlx n (jim g T n ((K / 2 : Nat) : Int) (decide (K % 2 = 1))) (fun q => (B q).toInt)
  · rw [jbs_yes (e.mp c)]
    exact hy c j hj
  · rw [jbs_no (fun z => c (e.mpr z)), hn c j hj]
    exact h j hj
/-! the room that is still owed: 9 for a ground without a tally, else its places of -1 -/
def jw9 (V : jH) (f : Nat → Option Nat) (j m : Nat) : Prop := (f j = none ∧ m = 9) ∨ ∃ (t rc : Nat) (ts : List Value) (h : Nat → Int32), f j = some t ∧ V t = some (.inr (2, ts)) ∧ ts[9]? = some (.ref rc) ∧ V rc = some (.inl (9, 7, .inl h)) ∧ m + jcn (-1) h 7 = 7
def jphi (V : jH) (a G : Nat) : Prop := ∃ (fs : List Value) (tl : Nat) (f : Nat → Option Nat) (g : Nat → Nat), V a = some (.inr (4, fs)) ∧ fs[5]? = some (.ref tl) ∧ V tl = some (.inl (5, 4, .inr (.inr (.inr (.inr f))))) ∧ (∀ j, j < 4 → jw9 V f j (g j)) ∧ g 0 + g 1 + g 2 + g 3 ≤ G
theorem jw_all {P : Nat → Nat → Prop} {g : Nat → Nat} (h : ∀ j, j < 4 → ∃ m, m ≤ g j ∧ P j m) : ∃ g' : Nat → Nat, (∀ j, j < 4 → P j (g' j)) ∧ ∀ j, j < 4 → g' j ≤ g j := by
  refine ⟨fun j => if hj : j < 4 then Classical.choose (h j hj) else 0, fun j hj => ?_, fun j hj => ?_⟩
  · have h1 := (Classical.choose_spec (h j hj)).2
    dsimp only
    rw [dif_pos hj]
    exact h1
  · have h1 := (Classical.choose_spec (h j hj)).1
    dsimp only
    rw [dif_pos hj]
    exact h1
theorem jw9.step {V V' : jH} {f : Nat → Option Nat} {j m : Nat} (hx : jext V V') (h9 : jle9 V V') (h : jw9 V f j m) : ∃ m' : Nat, m' ≤ m ∧ jw9 V' f j m' := by
  rcases h with ⟨h1, h2⟩ | ⟨t, rc, ts, h, hf, ht, hr, hrc, hm⟩
  · exact ⟨m, Nat.le_refl _, Or.inl ⟨h1, h2⟩⟩
  · obtain ⟨ts2, ht2, hk⟩ := hx.keep ht
    obtain ⟨h2, hrc2, hl⟩ := h9 rc h hrc
    have h3 := jcn_le (c := -1) (F := h2) 7
    exact ⟨7 - jcn (-1) h2 7, by omega, Or.inr ⟨t, rc, ts2, h2, hf, ht2, hk 9 rc hr, hrc2, by omega⟩⟩
theorem jw9.of {V : jH} {f : Nat → Option Nat} {j t : Nat} (hW : WT V) (hf : f j = some t) (ht : jis V (.inr 2) t) : ∃ m : Nat, m ≤ 7 ∧ jw9 V f j m := by
  obtain ⟨ts, hO, hK⟩ := WT_obj hW id ht
  obtain ⟨w, hF, rc, rfl, hrc⟩ := hK.2 9 (.inr (some (.inl 9))) rfl
  obtain ⟨n, h, hA, -, hM, -⟩ := WT_arrI (r := (-2147483648, 2147483647)) hW id rfl hrc
  obtain rfl := hM 7 rfl
  have h3 := jcn_le (c := -1) (F := h) 7
  exact ⟨7 - jcn (-1) h 7, by omega, Or.inr ⟨t, rc, ts, h, hf, hO, hF, hA, by omega⟩⟩
theorem jphi.init {V : jH} {a : Nat} (hW : WT V) (h : jis V (.inr 4) a) : jphi V a 36 := by
  obtain ⟨fs, hO, hK⟩ := WT_obj hW id h
  obtain ⟨w, hF, tl, rfl, htl⟩ := hK.2 5 (.inr (some (.inl 5))) rfl
  obtain ⟨n, f, hA, -, hM, hv⟩ := WT_arrR hW id rfl htl
  obtain rfl := hM 4 rfl
  obtain ⟨g, h1, h2⟩ := jw_all (P := fun j m => jw9 V f j m) (g := fun _ => 9) (fun j hj => by
    cases hf : f j with
    | none => exact ⟨9, Nat.le_refl _, Or.inl ⟨hf, rfl⟩⟩
    | some t =>
      obtain ⟨m, q1, q2⟩ := jw9.of hW hf (hv j t hj hf)
      exact ⟨m, by omega, q2⟩)
  have e0 := h2 0 (by omega)
  have e1 := h2 1 (by omega)
  have e2 := h2 2 (by omega)
  have e3 := h2 3 (by omega)
  exact ⟨fs, tl, f, g, hO, hF, hA, h1, by omega⟩
theorem jphi.core {V V' : jH} {a G : Nat} {fs : List Value} {tl : Nat} {f : Nat → Option Nat} {g : Nat → Nat} (hO : V a = some (.inr (4, fs))) (hF : fs[5]? = some (.ref tl)) (hA : V' tl = some (.inl (5, 4, .inr (.inr (.inr (.inr f)))))) (hg : ∀ j, j < 4 → jw9 V f j (g j)) (hs : g 0 + g 1 + g 2 + g 3 ≤ G) (hx : jext V V') (h9 : jle9 V V') : jphi V' a G := by
  obtain ⟨fs2, hO2, hk⟩ := hx.keep hO
  obtain ⟨g2, h1, h2⟩ := jw_all (P := fun j m => jw9 V' f j m) (g := g) (fun j hj => (hg j hj).step hx h9)
  have e0 := h2 0 (by omega)
  have e1 := h2 1 (by omega)
  have e2 := h2 2 (by omega)
  have e3 := h2 3 (by omega)
  exact ⟨fs2, tl, f, g2, hO2, hk 5 tl hF, hA, h1, by omega⟩
theorem jphi.keep {E : List jKd} {V V' : jH} {a G : Nat} (h : jphi V a G) (hx : jeff E V V') (h5 : (.inl 5 : jKd) ∉ E) (h9 : (.inl 9 : jKd) ∉ E) : jphi V' a G := by
  obtain ⟨fs, tl, f, g, hO, hF, hA, hg, hs⟩ := h
  exact jphi.core hO hF (hx.2 _ _ hA h5) hg hs hx.1 (jle9.of hx h9)
theorem jphi.alloc {V V' : jH} {a G j t rc : Nat} {fs ts : List Value} {tl : Nat} {f : Nat → Option Nat} {g : Nat → Nat} {h H : Nat → Int32} (hO : V a = some (.inr (4, fs))) (hF : fs[5]? = some (.ref tl)) (hA : V' tl = some (.inl (5, 4, .inr (.inr (.inr (.inr f)))))) (hg : ∀ j, j < 4 → jw9 V f j (g j)) (hs : g 0 + g 1 + g 2 + g 3 ≤ G) (hx : jext V V') (h9 : jle9 V V') (hj : j < 4) (hf : f j = some t) (ht : V t = some (.inr (2, ts))) (hr : ts[9]? = some (.ref rc)) (hrc : V rc = some (.inl (9, 7, .inl h))) (hH : V' rc = some (.inl (9, 7, .inl H))) (hc : jcn (-1) H 7 = jcn (-1) h 7 + 1) : 1 ≤ G ∧ jphi V' a (G - 1) := by
  obtain ⟨fs2, hO2, hk⟩ := hx.keep hO
  obtain ⟨ts2, ht2, hk2⟩ := hx.keep ht
  have hl := jcn_le (c := -1) (F := H) 7
  have hgj : g j + jcn (-1) h 7 = 7 := by
    rcases hg j hj with ⟨h1, h2⟩ | ⟨t2, rc2, ts3, h3, e1, e2, e3, e4, e5⟩
    · rw [hf] at h1; cases h1
    · have q1 := Option.some.inj (hf.symm.trans e1)
      subst q1
      cases ht.symm.trans e2
      cases hr.symm.trans e3
      cases hrc.symm.trans e4
      exact e5
  obtain ⟨g2, h1, h2⟩ := jw_all (P := fun i m => jw9 V' f i m) (g := fun i => if i = j then g j - 1 else g i) (fun i hi => by
    by_cases hij : i = j
    · subst hij
      refine ⟨7 - jcn (-1) H 7, ?_, Or.inr ⟨t, rc, ts2, H, hf, ht2, hk2 9 rc hr, hH, by omega⟩⟩
      rw [if_pos rfl]
      omega
    · rw [if_neg hij]
      exact (hg i hi).step hx h9)
  have e0 := h2 0 (by omega)
  have e1 := h2 1 (by omega)
  have e2 := h2 2 (by omega)
  have e3 := h2 3 (by omega)
  refine (fun q : g2 0 + g2 1 + g2 2 + g2 3 + 1 ≤ G => ⟨by omega, fs2, tl, f, g2, hO2, hk 5 tl hF, hA, h1, by omega⟩) ?_
  rcases (show j = 0 ∨ j = 1 ∨ j = 2 ∨ j = 3 by omega) with rfl | rfl | rfl | rfl
  · rw [if_pos rfl] at e0; rw [if_neg (by omega)] at e1 e2 e3; omega
  · rw [if_pos rfl] at e1; rw [if_neg (by omega)] at e0 e2 e3; omega
  · rw [if_pos rfl] at e2; rw [if_neg (by omega)] at e0 e1 e3; omega
  · rw [if_pos rfl] at e3; rw [if_neg (by omega)] at e0 e1 e2; omega
theorem jphi.fresh {V V' : jH} {a G j : Nat} {fs : List Value} {tl : Nat} {f f2 : Nat → Option Nat} {g : Nat → Nat} (hO : V a = some (.inr (4, fs))) (hF : fs[5]? = some (.ref tl)) (hA : V' tl = some (.inl (5, 4, .inr (.inr (.inr (.inr f2)))))) (hg : ∀ j, j < 4 → jw9 V f j (g j)) (hs : g 0 + g 1 + g 2 + g 3 ≤ G) (hx : jext V V') (h9 : jle9 V V') (hW : WT V') (hj : j < 4) (hf : f j = none) (h2 : ∀ i, i ≠ j → f2 i = f i) (h3 : ∃ t, f2 j = some t) : 2 ≤ G ∧ jphi V' a (G - 2) := by
  obtain ⟨fs2, hO2, hk⟩ := hx.keep hO
  obtain ⟨t, ht⟩ := h3
  obtain ⟨n, f3, hA3, -, -, hv⟩ := WT_arrR hW id rfl (show jis V' (.inl 5) tl from ⟨_, hA, rfl⟩)
  cases hA.symm.trans hA3
  have hgj : g j = 9 := by
    rcases hg j hj with ⟨h1, h2⟩ | ⟨t2, rc2, ts3, h3, e1, -⟩
    · exact h2
    · rw [hf] at e1; cases e1
  obtain ⟨g2, h1, h4⟩ := jw_all (P := fun i m => jw9 V' f2 i m) (g := fun i => if i = j then 7 else g i) (fun i hi => by
    by_cases hij : i = j
    · subst hij
      rw [if_pos rfl]
      exact jw9.of hW ht (hv i t hi ht)
    · rw [if_neg hij]
      obtain ⟨m, q1, q2⟩ := (hg i hi).step hx h9
      refine ⟨m, q1, ?_⟩
      rcases q2 with ⟨w1, w2⟩ | ⟨t5, rc5, ts5, h5, w1, w2⟩
      · exact Or.inl ⟨(h2 i hij).trans w1, w2⟩
      · exact Or.inr ⟨t5, rc5, ts5, h5, (h2 i hij).trans w1, w2⟩)
  have e0 := h4 0 (by omega)
  have e1 := h4 1 (by omega)
  have e2 := h4 2 (by omega)
  have e3 := h4 3 (by omega)
  refine (fun q : g2 0 + g2 1 + g2 2 + g2 3 + 2 ≤ G => ⟨by omega, fs2, tl, f2, g2, hO2, hk 5 tl hF, hA, h1, by omega⟩) ?_
  rcases (show j = 0 ∨ j = 1 ∨ j = 2 ∨ j = 3 by omega) with rfl | rfl | rfl | rfl
  · rw [if_pos rfl] at e0; rw [if_neg (by omega)] at e1 e2 e3; omega
  · rw [if_pos rfl] at e1; rw [if_neg (by omega)] at e0 e2 e3; omega
  · rw [if_pos rfl] at e2; rw [if_neg (by omega)] at e0 e1 e3; omega
  · rw [if_pos rfl] at e3; rw [if_neg (by omega)] at e0 e1 e2; omega
/-! what class and reference hold alike: the board -/
theorem jkc.sub {c : Nat} {ks ks2 : List Nat} {V V' : jH} (h : jkc c ks V V') (hs : ∀ k ∈ ks2, k ∈ ks) : jkc c ks2 V V' := fun a fs q => by
  obtain ⟨fs', h1, h2⟩ := h a fs q
  exact ⟨fs', h1, fun k hk => h2 k (hs k hk)⟩
def jpl (V : jH) (x m : Nat) : Prop := ∃ (xs ms : List Value) (pl rh : Nat) (w h : Int32) (op : Int64) (H : Nat → Int32), V x = some (.inr (4, xs)) ∧ xs[6]? = some (.ref pl) ∧ V m = some (.inr (5, ms)) ∧ ms[25]? = some (.ref rh) ∧ jfI V pl 0 1 w ∧ jfI V pl 0 2 h ∧ jfL V pl 0 3 op ∧ jfI V m 5 23 w ∧ jfI V m 5 24 h ∧ V rh = some (.inl (43, 36, .inl H)) ∧ (2 ≤ w.toInt ∧ w.toInt ≤ 6 ∧ 2 ≤ h.toInt ∧ h.toInt ≤ 6) ∧ ∀ n : Nat, jbt op n = true ↔ ∃ a b : Nat, ((a : Int) < w.toInt ∧ (b : Int) < h.toInt) ∧ n = 9 + a + 8 * b ∧ (H (a + w.toInt.toNat * b)).toInt = 0
theorem jpl.core {V V' : jH} {x m : Nat} (h : jpl V x m) (hx : jext V V') (k0 : jkc 0 [1, 2, 3] V V') (k5 : jkc 5 [23, 24] V V') (h43 : ∀ (a : Nat) (f : Nat → Int32), V a = some (.inl (43, 36, .inl f)) → V' a = some (.inl (43, 36, .inl f))) : jpl V' x m := by
  obtain ⟨xs, ms, pl, rh, w, h, op, H, q1, q2, q3, q4, q5, q6, q7, q8, q9, q10, q11, q12⟩ := h
  obtain ⟨xs2, p1, p2⟩ := hx.keep q1
  obtain ⟨ms2, p3, p4⟩ := hx.keep q3
  exact ⟨xs2, ms2, pl, rh, w, h, op, H, p1, p2 _ _ q2, p3, p4 _ _ q4, q5.kp k0 (by decide), q6.kp k0 (by decide), q7.kp k0 (by decide), q8.kp k5 (by decide), q9.kp k5 (by decide), h43 _ _ q10, q11, q12⟩
theorem jpl.own {E : List jKd} {V V' : jH} {x m : Nat} (h : jpl V x m) (he : jeff E V V') (h0 : (.inr 0 : jKd) ∉ E) (h5 : (.inr 5 : jKd) ∉ E) (h43 : (.inl 43 : jKd) ∉ E) : jpl V' x m :=
  h.core he.1 (jkc.of he h0) (jkc.of he h5) (fun a f q => he.2 a _ q h43)
theorem jpl.ways {E : List jKd} {V V' : jH} {x m : Nat} (h : jpl V x m) (he : jeff E V V') (hk : jkc 0 [1, 2, 3] V V') (h5 : (.inr 5 : jKd) ∉ E) (h43 : (.inl 43 : jKd) ∉ E) : jpl V' x m :=
  h.core he.1 hk (jkc.of he h5) (fun a f q => he.2 a _ q h43)
theorem jpl.ref {E : List jKd} {ks : List Nat} {V V' : jH} {x m : Nat} (h : jpl V x m) (he : jeff E V V') (h0 : (.inr 0 : jKd) ∉ E) (hk : jkc 5 ks V V') (hs : ∀ k ∈ [23, 24], k ∈ ks) (h43 : (.inl 43 : jKd) ∉ E) : jpl V' x m :=
  h.core he.1 (jkc.of he h0) (hk.sub hs) (fun a f q => he.2 a _ q h43)
/-- a place's number is its own -/
theorem jcell_inj {w a b c d : Nat} (ha : a < w) (hc : c < w) (h : a + w * b = c + w * d) : a = c ∧ b = d := by
  have hw : 0 < w := by omega
  have h1 : (a + w * b) / w = b := by rw [Nat.add_mul_div_left _ _ hw, Nat.div_eq_of_lt ha, Nat.zero_add]
  have h2 : (c + w * d) / w = d := by rw [Nat.add_mul_div_left _ _ hw, Nat.div_eq_of_lt hc, Nat.zero_add]
  have h3 : b = d := by rw [← h1, h, h2]
  subst h3
  omega
theorem jpl.init {V : jH} {x m : Nat} (h1 : jpx V x) (h2 : jmx V m) (h3 : jfI V m 5 23 2) (h4 : jfI V m 5 24 2) : jpl V x m := by
  obtain ⟨xs, pl, q1, q2, w, h, op, p1, p2, p3, p4, p5, p6⟩ := h1
  obtain ⟨ms, rh, q3, q4, q5⟩ := h2
  have e1 : w = 2 := jI_inj.mp p4
  have e2 : h = 2 := jI_inj.mp p5
  subst e1
  subst e2
  exact ⟨xs, ms, pl, rh, 2, 2, op, _, q1, q2, q3, q4, p1, p2, p3, h3, h4, q5, by decide, fun n => (p6 n).trans ⟨fun ⟨a, b, q, e⟩ => ⟨a, b, q, e, rfl⟩, fun ⟨a, b, q, e, _⟩ => ⟨a, b, q, e⟩⟩⟩
theorem jpl.laid {V : jH} {x m pl rh : Nat} {x1 x2 w2 h2 w3 h3 : Int32} {op : Int64} {G : Nat → Int32} (hb : 2 ≤ x1.toInt ∧ x1.toInt ≤ 6 ∧ 2 ≤ x2.toInt ∧ x2.toInt ≤ 6) (r1 : jfR V x 4 6 pl) (r2 : jfR V m 5 25 rh) (c1 : jfI V pl 0 1 w2) (c2 : jfI V pl 0 2 h2) (c3 : jfL V pl 0 3 op) (e1 : w2.toInt = x1.toInt) (e2 : h2.toInt = x2.toInt) (hbits : ∀ n : Nat, jbt op n = true ↔ ∃ x y : Nat, ((x : Int) < x1.toInt ∧ (y : Int) < x2.toInt) ∧ n = 9 + x + 8 * y) (m1 : jfI V m 5 23 w3) (m2 : jfI V m 5 24 h3) (e3 : w3.toInt = x1.toInt) (e4 : h3.toInt = x2.toInt) (hG : V rh = some (.inl (43, 36, .inl G))) (hz : ∀ j : Nat, j < 36 → (G j).toInt = 0) : jpl V x m := by
  obtain rfl := jI_inj.mp e1
  obtain rfl := jI_inj.mp e2
  obtain rfl := jI_inj.mp e3
  obtain rfl := jI_inj.mp e4
  obtain ⟨xs, q1, q2⟩ := r1
  obtain ⟨ms, q3, q4⟩ := r2
  refine ⟨xs, ms, pl, rh, _, _, op, G, q1, q2, q3, q4, c1, c2, c3, m1, m2, hG, hb, fun n => (hbits n).trans ⟨fun ⟨a, b, q, e⟩ => ⟨a, b, q, e, hz _ ?_⟩, fun ⟨a, b, q, e, _⟩ => ⟨a, b, q, e⟩⟩⟩
  have h5 := Nat.mul_le_mul (show w3.toInt.toNat ≤ 6 by omega) (show b ≤ 5 by omega)
  omega
theorem jcell_nat {x y w : Int} (hx : 0 ≤ x) (hy : 0 ≤ y) (hw : 0 ≤ w) : (x + w * y).toNat = x.toNat + w.toNat * y.toNat := by
  rw [Int.toNat_add hx (Int.mul_nonneg hw hy), Int.toNat_mul hw hy]
theorem jpl_bit {op : Int64} {H : Nat → Int32} {w h x y : Int} (hb : ∀ n : Nat, jbt op n = true ↔ ∃ a b : Nat, ((a : Int) < w ∧ (b : Int) < h) ∧ n = 9 + a + 8 * b ∧ (H (a + w.toNat * b)).toInt = 0) (hw : w ≤ 6) (hx : 0 ≤ x) (hx2 : x < w) (hy : 0 ≤ y) (hy2 : y < h) : jbt op (9 + x + 8 * y).toNat = true ↔ (H (x + w * y).toNat).toInt = 0 := by
  rw [hb, jcell_nat hx hy (by omega)]
  constructor
  · rintro ⟨a, b, q, e, z⟩
    have h1 : a = x.toNat := by omega
    have h2 : b = y.toNat := by omega
    subst h1
    subst h2
    exact z
  · intro z
    exact ⟨x.toNat, y.toNat, by omega, by omega, z⟩
theorem jbit_eq {op : Int64} {N : Nat} {a x : Int} (hb : jbt op N = true ↔ a = 0) (h : a = x) : jbt op N = decide (x = 0) := by
  by_cases c : x = 0
  · rw [decide_eq_true c]
    exact hb.mpr (h.trans c)
  · rw [decide_eq_false c]
    exact Bool.eq_false_iff.mpr (fun q => c (h ▸ hb.mp q))
theorem jbit_ne {op : Int64} {N : Nat} {a x : Int} (hb : jbt op N = true ↔ a = 0) (ha : 0 ≤ a) (ha1 : a ≤ 1) (hx : 0 ≤ x) (hx1 : x ≤ 1) (h : ¬ a = x) : jbt op N = decide (x = 1) := by
  by_cases c : x = 1
  · rw [decide_eq_true c]
    exact hb.mpr (by omega)
  · rw [decide_eq_false c]
    exact Bool.eq_false_iff.mpr (fun q => by have q2 := hb.mp q; omega)
theorem jpl.turned {V : jH} {x m pl rh : Nat} {x1 x2 x3 w h : Int32} {op op2 : Int64} {H G : Nat → Int32} (r1 : jfR V x 4 6 pl) (r2 : jfR V m 5 25 rh) (c1 : jfI V pl 0 1 w) (c2 : jfI V pl 0 2 h) (c3 : jfL V pl 0 3 op2) (m1 : jfI V m 5 23 w) (m2 : jfI V m 5 24 h) (hG : V rh = some (.inl (43, 36, .inl G))) (hr : 2 ≤ w.toInt ∧ w.toInt ≤ 6 ∧ 2 ≤ h.toInt ∧ h.toInt ≤ 6) (hb : ∀ n : Nat, jbt op n = true ↔ ∃ a b : Nat, ((a : Int) < w.toInt ∧ (b : Int) < h.toInt) ∧ n = 9 + a + 8 * b ∧ (H (a + w.toInt.toNat * b)).toInt = 0) (hi : 0 ≤ x1.toInt ∧ x1.toInt < w.toInt ∧ 0 ≤ x2.toInt ∧ x2.toInt < h.toInt) (hx0 : 0 ≤ x3.toInt) (hx1 : x3.toInt ≤ 1) (hd : jbt op (9 + x1.toInt + 8 * x2.toInt).toNat = decide (x3.toInt = 1)) (ht : ∀ n : Nat, jbt op2 n = (jbt op n ^^ decide (n = (9 + x1.toInt + 8 * x2.toInt).toNat))) (hk : G (x1.toInt + w.toInt * x2.toInt).toNat = x3) (ho : ∀ j : Nat, j ≠ (x1.toInt + w.toInt * x2.toInt).toNat → G j = H j) : jpl V x m := by
  obtain ⟨xs, q1, q2⟩ := r1
  obtain ⟨ms, q3, q4⟩ := r2
  refine ⟨xs, ms, pl, rh, _, _, op2, G, q1, q2, q3, q4, c1, c2, c3, m1, m2, hG, hr, fun n => ?_⟩
  have hcn := jcell_nat hi.1 hi.2.2.1 (show 0 ≤ w.toInt by omega)
  rw [ht n]
  by_cases c : n = (9 + x1.toInt + 8 * x2.toInt).toNat
  · rw [decide_eq_true c, c, hd]
    constructor
    · intro z
      refine ⟨x1.toInt.toNat, x2.toInt.toNat, by omega, by omega, ?_⟩
      rw [← hcn, hk]
      by_cases e : x3.toInt = 1
      · rw [decide_eq_true e] at z; cases z
      · omega
    · rintro ⟨a, b, q, e, z⟩
      have h1 : a = x1.toInt.toNat := by omega
      have h2 : b = x2.toInt.toNat := by omega
      subst h1
      subst h2
      rw [← hcn, hk] at z
      rw [decide_eq_false (by omega)]
      rfl
  · rw [decide_eq_false c, Bool.xor_false, hb n]
    have hne : ∀ a b : Nat, ((a : Int) < w.toInt ∧ (b : Int) < h.toInt) → n = 9 + a + 8 * b → G (a + w.toInt.toNat * b) = H (a + w.toInt.toNat * b) := fun a b q e => ho _ (fun z => by
      rw [hcn] at z
      obtain ⟨h1, h2⟩ := jcell_inj (by omega) (by omega) z
      omega)
    exact ⟨fun ⟨a, b, q, e, z⟩ => ⟨a, b, q, e, by rw [hne a b q e]; exact z⟩, fun ⟨a, b, q, e, z⟩ => ⟨a, b, q, e, by rw [← hne a b q e]; exact z⟩⟩
theorem jbw (v : Int32) : ∃ w : Int32, 0 ≤ w.toInt ∧ w.toInt ≤ 1 ∧ (v = 0 → w = 0) ∧ (¬ v = 0 → w = 1) := by
  by_cases c : v = 0
  · exact ⟨0, by decide, by decide, fun _ => rfl, fun h => absurd c h⟩
  · exact ⟨1, by decide, by decide, fun h => absurd h c, fun _ => rfl⟩
/-- the pieces of the boards' relation -/
theorem jpl.parts {V : jH} {x m : Nat} (hj : jpl V x m) : ∃ (pl rh : Nat) (w h : Int32) (op : Int64) (H : Nat → Int32), jfR V x 4 6 pl ∧ jfR V m 5 25 rh ∧ jfI V pl 0 1 w ∧ jfI V pl 0 2 h ∧ jfL V pl 0 3 op ∧ jfI V m 5 23 w ∧ jfI V m 5 24 h ∧ V rh = some (.inl (43, 36, .inl H)) ∧ (2 ≤ w.toInt ∧ w.toInt ≤ 6 ∧ 2 ≤ h.toInt ∧ h.toInt ≤ 6) ∧ ∀ n : Nat, jbt op n = true ↔ ∃ a b : Nat, ((a : Int) < w.toInt ∧ (b : Int) < h.toInt) ∧ n = 9 + a + 8 * b ∧ (H (a + w.toInt.toNat * b)).toInt = 0 := by
  obtain ⟨xs, ms, pl, rh, w, h, op, H, q1, q2, q3, q4, q5, q6, q7, q8, q9, q10, q11, q12⟩ := hj
  exact ⟨pl, rh, w, h, op, H, ⟨_, q1, q2⟩, ⟨_, q3, q4⟩, q5, q6, q7, q8, q9, q10, q11, q12⟩
theorem jcell_lt {x y w h : Int} (hx : 0 ≤ x) (hx2 : x < w) (hy : 0 ≤ y) (hy2 : y < h) (hw : w ≤ 6) (hh : h ≤ 6) : (x + w * y).toNat < 36 := by
  rw [jcell_nat hx hy (by omega)]
  have h5 := Nat.mul_le_mul (show w.toNat ≤ 6 by omega) (show y.toNat ≤ 5 by omega)
  omega
theorem jpl_cnt {op : Int64} {H : Nat → Int32} {w h : Int} (hr : 2 ≤ w ∧ w ≤ 6 ∧ 2 ≤ h ∧ h ≤ 6) (hb : ∀ n : Nat, jbt op n = true ↔ ∃ a b : Nat, ((a : Int) < w ∧ (b : Int) < h) ∧ n = 9 + a + 8 * b ∧ (H (a + w.toNat * b)).toInt = 0) (hH : ∀ k, k < 36 → 0 ≤ (H k).toInt ∧ (H k).toInt ≤ 1) : ((jsum (fun n => (jbt op n).toNat) 64 : Nat) : Int) = ((jcn 1 H (w * h).toNat : Nat) : Int) := by
  have h1 := Nat.mul_le_mul (show w.toNat ≤ 6 by omega) (show h.toNat ≤ 6 by omega)
  rw [jopen_sum (w := w.toNat) (h := h.toNat) (by omega) (by omega) (fun k hk => hH k (by omega)) (fun n => (hb n).trans ⟨fun ⟨a, b, q, e⟩ => ⟨a, b, by omega, e⟩, fun ⟨a, b, q, e⟩ => ⟨a, b, by omega, e⟩⟩), Int.toNat_mul (by omega) (by omega)]
/-- holes and bits, place by place -/
theorem jpl_dig {op : Int64} {H : Nat → Int32} {w h : Int} (hr : 2 ≤ w ∧ w ≤ 6 ∧ 2 ≤ h ∧ h ≤ 6) (hb : ∀ n : Nat, jbt op n = true ↔ ∃ a b : Nat, ((a : Int) < w ∧ (b : Int) < h) ∧ n = 9 + a + 8 * b ∧ (H (a + w.toNat * b)).toInt = 0) : ∀ q : Nat, q < w.toNat * h.toNat → (!jbt op (9 + q % w.toNat + 8 * (q / w.toNat))) = decide (¬ (H q).toInt = 0) := fun q hq => by
  have hw : 0 < w.toNat := by omega
  have h1 : q % w.toNat < w.toNat := Nat.mod_lt _ hw
  have h2 : q / w.toNat < h.toNat := (Nat.div_lt_iff_lt_mul hw).mpr (by rw [Nat.mul_comm]; exact hq)
  have h3 : q % w.toNat + w.toNat * (q / w.toNat) = q := Nat.mod_add_div q w.toNat
  have key : jbt op (9 + q % w.toNat + 8 * (q / w.toNat)) = true ↔ (H q).toInt = 0 := by
    rw [hb]
    constructor
    · rintro ⟨a, b, r, e, z⟩
      have e1 : a = q % w.toNat := by omega
      have e2 : b = q / w.toNat := by omega
      rw [e1, e2, h3] at z
      exact z
    · intro z
      exact ⟨q % w.toNat, q / w.toNat, by omega, rfl, by rw [h3]; exact z⟩
  by_cases c : (H q).toInt = 0
  · rw [key.mpr c, decide_eq_false (fun z => z c)]
    rfl
  · rw [Bool.eq_false_iff.mpr (fun z => c (key.mp z)), decide_eq_true c]
    rfl
theorem jcn_ex {t : Nat → Nat} (h : ∀ i, i < 64 → t i ≤ 1) : ∃ cn : Int32, cn.toInt = ((jsum t 64 : Nat) : Int) := ⟨nI (jsum t 64), nI_toInt (by have q := jsum_le 64 h; omega)⟩
/-! the walks: what class and reference hold alike -/
abbrev jad : Type := Nat × Nat × Nat × Nat × Nat
abbrev jrwA (V : jH) (P : jad) (ln : Nat) (g n : Int) (S X Y Z : Nat → Int32) : Prop := jrw V P.1 P.2.1 P.2.2.1 P.2.2.2.1 P.2.2.2.2 ln g n S X Y Z
abbrev jadl (P : jad) : List Nat := [P.1, P.2.1, P.2.2.1, P.2.2.2.1, P.2.2.2.2]
def jsp (P Q : jad) : Prop := P.1 ≠ Q.1 ∧ P.2.1 ≠ Q.2.1 ∧ P.2.2.1 ≠ Q.2.2.1 ∧ P.2.2.2.1 ≠ Q.2.2.2.1 ∧ P.2.2.2.2 ≠ Q.2.2.2.2
theorem jsp.symm {P Q : jad} (h : jsp P Q) : jsp Q P := ⟨h.1.symm, h.2.1.symm, h.2.2.1.symm, h.2.2.2.1.symm, h.2.2.2.2.symm⟩
theorem jrw.mem {V : jH} {P : jad} {ln : Nat} {g n : Int} {S X Y Z : Nat → Int32} (h : jrwA V P ln g n S X Y Z) : ∀ b ∈ jadl P, ∃ e : jE, V b = some e ∧ jsh e ∈ jRK := by
  obtain ⟨⟨q0, ⟨fs, a0, -⟩, -⟩, -, -, -, -, -, -, c1, c2, c3, c4⟩ := h
  intro b hb
  simp only [jadl, List.mem_cons, List.not_mem_nil, or_false] at hb
  rcases hb with rfl | rfl | rfl | rfl | rfl
  · exact ⟨_, a0, jin_of rfl⟩
  · exact ⟨_, c1, jin_of rfl⟩
  · exact ⟨_, c2, jin_of rfl⟩
  · exact ⟨_, c3, jin_of rfl⟩
  · exact ⟨_, c4, jin_of rfl⟩
theorem jrw.same {V V' : jH} {P : jad} {ln : Nat} {g n : Int} {S X Y Z : Nat → Int32} (h : jrwA V P ln g n S X Y Z) (hs : ∀ b ∈ jadl P, V' b = V b) : jrwA V' P ln g n S X Y Z := by
  have s0 := hs P.1 (by simp [jadl])
  have s1 := hs P.2.1 (by simp [jadl])
  have s2 := hs P.2.2.1 (by simp [jadl])
  have s3 := hs P.2.2.2.1 (by simp [jadl])
  have s4 := hs P.2.2.2.2 (by simp [jadl])
  have kI : ∀ {k : Nat} {y : Int32}, jfI V P.1 1 k y → jfI V' P.1 1 k y := fun ⟨fs, h1, h2⟩ => ⟨fs, s0.trans h1, h2⟩
  have kR : ∀ {k b : Nat}, jfR V P.1 1 k b → jfR V' P.1 1 k b := fun ⟨fs, h1, h2⟩ => ⟨fs, s0.trans h1, h2⟩
  obtain ⟨⟨q0, a0, b0⟩, ⟨q5, a5, b5⟩, ⟨q6, a6, b6⟩, r1, r2, r3, r4, c1, c2, c3, c4⟩ := h
  exact ⟨⟨q0, kI a0, b0⟩, ⟨q5, kI a5, b5⟩, ⟨q6, kI a6, b6⟩, kR r1, kR r2, kR r3, kR r4, s1.trans c1, s2.trans c2, s3.trans c3, s4.trans c4⟩
theorem jdisj {V : jH} {P Q : jad} {ln lm : Nat} {g n g2 n2 : Int} {S X Y Z S2 X2 Y2 Z2 : Nat → Int32} (h : jrwA V P ln g n S X Y Z) (h2 : jrwA V Q lm g2 n2 S2 X2 Y2 Z2) (hs : jsp P Q) : ∀ b ∈ jadl P, b ∉ jadl Q := by
  obtain ⟨⟨q0, ⟨fs, a0, -⟩, -⟩, -, -, -, -, -, -, c1, c2, c3, c4⟩ := h
  obtain ⟨⟨p0, ⟨gs, b0, -⟩, -⟩, -, -, -, -, -, -, d1, d2, d3, d4⟩ := h2
  obtain ⟨s0, s1, s2, s3, s4⟩ := hs
  have key : ∀ (a b : Nat) (e e2 : jE), V a = some e → V b = some e2 → jsh e ≠ jsh e2 → a ≠ b := fun a b e e2 q1 q2 q3 z => by
    subst z
    rw [q1] at q2
    cases q2
    exact q3 rfl
  intro b hb hq
  simp only [jadl, List.mem_cons, List.not_mem_nil, or_false] at hb hq
  rcases hb with rfl | rfl | rfl | rfl | rfl <;> rcases hq with hq | hq | hq | hq | hq
  · exact s0 hq
  · exact key _ _ _ _ a0 d1 (by simp [jsh]) hq
  · exact key _ _ _ _ a0 d2 (by simp [jsh]) hq
  · exact key _ _ _ _ a0 d3 (by simp [jsh]) hq
  · exact key _ _ _ _ a0 d4 (by simp [jsh]) hq
  · exact key _ _ _ _ c1 b0 (by simp [jsh]) hq
  · exact s1 hq
  · exact key _ _ _ _ c1 d2 (by simp [jsh]) hq
  · exact key _ _ _ _ c1 d3 (by simp [jsh]) hq
  · exact key _ _ _ _ c1 d4 (by simp [jsh]) hq
  · exact key _ _ _ _ c2 b0 (by simp [jsh]) hq
  · exact key _ _ _ _ c2 d1 (by simp [jsh]) hq
  · exact s2 hq
  · exact key _ _ _ _ c2 d3 (by simp [jsh]) hq
  · exact key _ _ _ _ c2 d4 (by simp [jsh]) hq
  · exact key _ _ _ _ c3 b0 (by simp [jsh]) hq
  · exact key _ _ _ _ c3 d1 (by simp [jsh]) hq
  · exact key _ _ _ _ c3 d2 (by simp [jsh]) hq
  · exact s3 hq
  · exact key _ _ _ _ c3 d4 (by simp [jsh]) hq
  · exact key _ _ _ _ c4 b0 (by simp [jsh]) hq
  · exact key _ _ _ _ c4 d1 (by simp [jsh]) hq
  · exact key _ _ _ _ c4 d2 (by simp [jsh]) hq
  · exact key _ _ _ _ c4 d3 (by simp [jsh]) hq
  · exact s4 hq
def jwv (g n : Int) (T : Nat → Int) (S X Y Z : Nat → Int32) : Prop := (0 ≤ g ∧ g ≤ 3) ∧ (0 ≤ n ∧ n ≤ 60) ∧ (∀ j : Nat, (j : Int) < n → (S j).toInt = T j ∧ 0 ≤ T j ∧ T j < jdir g) ∧ jrv g T n.toNat X Y Z ∧ jav g T n.toNat
theorem jwv.congr {g n : Int} {T U : Nat → Int} {S X Y Z : Nat → Int32} (h : jwv g n T S X Y Z) (he : ∀ j : Nat, (j : Int) < n → T j = U j) : jwv g n U S X Y Z := by
  obtain ⟨h1, h2, h3, h4, h5⟩ := h
  exact ⟨h1, h2, fun j hj => by rw [← he j hj]; exact h3 j hj, h4.congr (fun k hk => he k (by omega)), h5.congr (fun k hk => he k (by omega))⟩
def jcl1 (V : jH) (x : Nat) (k : Int32) (md tr : Nat) (f : Nat → Option Nat) : Prop := jfI V x 4 1 k ∧ jfR V x 4 0 md ∧ V md = some (.inl (4, 16, .inr (.inr (.inr (.inr f))))) ∧ jfR V x 4 2 tr
def jrf1 (V : jH) (m : Nat) (k : Int32) (gr mn sp : Nat) (GA MN SP : Nat → Int32) : Prop := jfI V m 5 0 k ∧ jfR V m 5 1 gr ∧ jfR V m 5 2 mn ∧ jfR V m 5 3 sp ∧ V gr = some (.inl (14, 16, .inl GA)) ∧ V mn = some (.inl (15, 16, .inl MN)) ∧ V sp = some (.inl (16, 960, .inl SP))
def jtr1 (V : jH) (T : jad) : Prop := ∃ (g n : Int) (S X Y Z : Nat → Int32), jrwA V T 120 g n S X Y Z ∧ (X 0).toInt = 0 ∧ (Y 0).toInt = 0 ∧ (Z 0).toInt = 0
def jrow1 (V : jH) (f : Nat → Option Nat) (A : Nat → jad) (GA MN SP : Nat → Int32) (w : Nat) : Prop := ∃ S X Y Z : Nat → Int32, f w = some (A w).1 ∧ jrwA V (A w) 60 (GA w).toInt (MN w).toInt S X Y Z ∧ jwv (GA w).toInt (MN w).toInt (fun q => (SP (60 * w + q)).toInt) S X Y Z
def jsp1 (k : Int32) (A : Nat → jad) (T : jad) : Prop := (∀ w v : Nat, (w : Int) < k.toInt → (v : Int) < k.toInt → w ≠ v → jsp (A w) (A v)) ∧ ∀ w : Nat, (w : Int) < k.toInt → jsp (A w) T
def jrs (V : jH) (x m : Nat) : Prop := ∃ (k : Int32) (md gr mn sp : Nat) (f : Nat → Option Nat) (GA MN SP : Nat → Int32) (A : Nat → jad) (T : jad), jcl1 V x k md T.1 f ∧ jrf1 V m k gr mn sp GA MN SP ∧ jtr1 V T ∧ (0 ≤ k.toInt ∧ k.toInt ≤ 16) ∧ (∀ w : Nat, (w : Int) < k.toInt → jrow1 V f A GA MN SP w) ∧ jsp1 k A T
theorem jcl1.keep {E : List jKd} {V V' : jH} {x : Nat} {k : Int32} {md tr : Nat} {f : Nat → Option Nat} (h : jcl1 V x k md tr f) (he : jeff E V V') (h4 : (.inr 4 : jKd) ∉ E) (ha : (.inl 4 : jKd) ∉ E) : jcl1 V' x k md tr f := ⟨h.1.keep he h4, h.2.1.mono he.1, he.2 _ _ h.2.2.1 ha, h.2.2.2.mono he.1⟩
theorem jrf1.keep {E : List jKd} {V V' : jH} {m : Nat} {k : Int32} {gr mn sp : Nat} {GA MN SP : Nat → Int32} (h : jrf1 V m k gr mn sp GA MN SP) (he : jeff E V V') (h5 : (.inr 5 : jKd) ∉ E) (h14 : (.inl 14 : jKd) ∉ E) (h15 : (.inl 15 : jKd) ∉ E) (h16 : (.inl 16 : jKd) ∉ E) : jrf1 V' m k gr mn sp GA MN SP := ⟨h.1.keep he h5, h.2.1.mono he.1, h.2.2.1.mono he.1, h.2.2.2.1.mono he.1, he.2 _ _ h.2.2.2.2.1 h14, he.2 _ _ h.2.2.2.2.2.1 h15, he.2 _ _ h.2.2.2.2.2.2 h16⟩
theorem jrf1.kp {E : List jKd} {ks : List Nat} {V V' : jH} {m : Nat} {k : Int32} {gr mn sp : Nat} {GA MN SP : Nat → Int32} (h : jrf1 V m k gr mn sp GA MN SP) (he : jeff E V V') (hk : jkc 5 ks V V') (h0 : 0 ∈ ks) (h14 : (.inl 14 : jKd) ∉ E) (h15 : (.inl 15 : jKd) ∉ E) (h16 : (.inl 16 : jKd) ∉ E) : jrf1 V' m k gr mn sp GA MN SP := ⟨h.1.kp hk h0, h.2.1.mono he.1, h.2.2.1.mono he.1, h.2.2.2.1.mono he.1, he.2 _ _ h.2.2.2.2.1 h14, he.2 _ _ h.2.2.2.2.2.1 h15, he.2 _ _ h.2.2.2.2.2.2 h16⟩
theorem jtr1.keep {E : List jKd} {V V' : jH} {T : jad} (h : jtr1 V T) (he : jeff E V V') (hn : ∀ k ∈ jRK, k ∉ E) : jtr1 V' T := by
  obtain ⟨g, n, S, X, Y, Z, h1, h2⟩ := h
  exact ⟨g, n, S, X, Y, Z, h1.keep he hn, h2⟩
theorem jrow1.keep {E : List jKd} {V V' : jH} {f : Nat → Option Nat} {A : Nat → jad} {GA MN SP : Nat → Int32} {w : Nat} (h : jrow1 V f A GA MN SP w) (he : jeff E V V') (hn : ∀ k ∈ jRK, k ∉ E) : jrow1 V' f A GA MN SP w := by
  obtain ⟨S, X, Y, Z, h1, h2, h3⟩ := h
  exact ⟨S, X, Y, Z, h1, h2.keep he hn, h3⟩
theorem jrow1.same {V V' : jH} {f : Nat → Option Nat} {A : Nat → jad} {GA MN SP : Nat → Int32} {w : Nat} (h : jrow1 V f A GA MN SP w) (hs : ∀ b ∈ jadl (A w), V' b = V b) : jrow1 V' f A GA MN SP w := by
  obtain ⟨S, X, Y, Z, h1, h2, h3⟩ := h
  exact ⟨S, X, Y, Z, h1, h2.same hs, h3⟩
abbrev jOWN : List jKd := [.inr 4, .inr 5, .inl 4, .inl 14, .inl 15, .inl 16]
theorem jrs.own {E : List jKd} {V V' : jH} {x m : Nat} (h : jrs V x m) (he : jeff E V V') (ho : ∀ k ∈ jOWN, k ∉ E) (hn : ∀ k ∈ jRK, k ∉ E) : jrs V' x m := by
  obtain ⟨k, md, gr, mn, sp, f, GA, MN, SP, A, T, h1, h2, h3, h4, h5, h6⟩ := h
  exact ⟨k, md, gr, mn, sp, f, GA, MN, SP, A, T, h1.keep he (ho _ (jin_of rfl)) (ho _ (jin_of rfl)), h2.keep he (ho _ (jin_of rfl)) (ho _ (jin_of rfl)) (ho _ (jin_of rfl)) (ho _ (jin_of rfl)), h3.keep he hn, h4, fun w hw => (h5 w hw).keep he hn, h6⟩
theorem jrs.ref {E : List jKd} {ks : List Nat} {V V' : jH} {x m : Nat} (h : jrs V x m) (he : jeff E V V') (hk : jkc 5 ks V V') (h0 : 0 ∈ ks) (ho : ∀ k ∈ [(.inr 4 : jKd), .inl 4, .inl 14, .inl 15, .inl 16], k ∉ E) (hn : ∀ k ∈ jRK, k ∉ E) : jrs V' x m := by
  obtain ⟨k, md, gr, mn, sp, f, GA, MN, SP, A, T, h1, h2, h3, h4, h5, h6⟩ := h
  exact ⟨k, md, gr, mn, sp, f, GA, MN, SP, A, T, h1.keep he (ho _ (jin_of rfl)) (ho _ (jin_of rfl)), h2.kp he hk h0 (ho _ (jin_of rfl)) (ho _ (jin_of rfl)) (ho _ (jin_of rfl)), h3.keep he hn, h4, fun w hw => (h5 w hw).keep he hn, h6⟩
/-- only the trial row is changed -/
theorem jrs.trial {E : List jKd} {V V' : jH} {x m : Nat} (h : jrs V x m) (hW : WT V') (he : jeff E V V') (ho : ∀ k ∈ jOWN, k ∉ E) (ht : jrt x V V') : jrs V' x m := by
  obtain ⟨k, md, gr, mn, sp, f, GA, MN, SP, A, T, h1, h2, h3, h4, h5, h6⟩ := h
  obtain ⟨g, n, S, X, Y, Z, hj, z1, z2, z3⟩ := h3
  have hj2 := hj
  obtain ⟨⟨q0, a0, b0⟩, ⟨q5, a5, b5⟩, ⟨q6, a6, b6⟩, r1, r2, r3, r4, c1, c2, c3, c4⟩ := hj2
  obtain ⟨k1, k2, k3, k4, k5, k6⟩ := ht _ h1.2.2.2 _ _ _ _ r1 r2 r3 r4
  refine ⟨k, md, gr, mn, sp, f, GA, MN, SP, A, T, h1.keep he (ho _ (jin_of rfl)) (ho _ (jin_of rfl)), h2.keep he (ho _ (jin_of rfl)) (ho _ (jin_of rfl)) (ho _ (jin_of rfl)) (ho _ (jin_of rfl)), ?_, h4, fun w hw => (h5 w hw).same (fun b hb => ?_), h6⟩
  · obtain ⟨fs, hO, -⟩ := id a0
    obtain ⟨fs2, hO2, hR2⟩ := he.1.keep hO
    have hK2 : jokO V' (jFs 1) fs2 := hW _ _ id hO2
    obtain ⟨w5, f5, g5, rfl, -⟩ := hK2.2 5 (.inl (-2147483648, 2147483647)) rfl
    obtain ⟨w6, f6, g6, rfl, -⟩ := hK2.2 6 (.inl (0, 120)) rfl
    obtain ⟨S2, e1⟩ := k3 _ _ c1
    obtain ⟨X2, e2, e2'⟩ := k4 _ _ c2
    obtain ⟨Y2, e3, e3'⟩ := k5 _ _ c3
    obtain ⟨Z2, e4, e4'⟩ := k6 _ _ c4
    exact ⟨g5.toInt, g6.toInt, S2, X2, Y2, Z2, ⟨⟨q0, k2 _ a0, b0⟩, ⟨g5, ⟨_, hO2, f5⟩, rfl⟩, ⟨g6, ⟨_, hO2, f6⟩, rfl⟩, r1.mono he.1, r2.mono he.1, r3.mono he.1, r4.mono he.1, e1, e2, e3, e4⟩, by rw [e2']; exact z1, by rw [e3']; exact z2, by rw [e4']; exact z3⟩
  · obtain ⟨S9, X9, Y9, Z9, -, hr9, -⟩ := h5 w hw
    obtain ⟨e, q1, q2⟩ := jrw.mem hr9 b hb
    exact (k1 b e (jdisj hr9 hj (h6.2 w hw) b hb) q1 q2).trans q1.symm
/-- a walk is changed, the others are as they were -/
theorem jrs.upd {V V3 : jH} {x m : Nat} {k : Int32} {md gr mn sp w : Nat} {f : Nat → Option Nat} {GA MN SP M2 S2 : Nat → Int32} {A : Nat → jad} {T : jad} (h4 : 0 ≤ k.toInt ∧ k.toInt ≤ 16) (h5 : ∀ w : Nat, (w : Int) < k.toInt → jrow1 V f A GA MN SP w) (h6 : jsp1 k A T) (c : jcl1 V3 x k md T.1 f) (r : jrf1 V3 m k gr mn sp GA M2 S2) (t : jtr1 V3 T) (hMo : ∀ j : Nat, j ≠ w → M2 j = MN j) (hSo : ∀ q : Nat, q < 60 * w ∨ 60 * w + 60 ≤ q → S2 q = SP q) (hrow : jrow1 V3 f A GA M2 S2 w) (hkeep : ∀ v : Nat, (v : Int) < k.toInt → v ≠ w → ∀ b ∈ jadl (A v), V3 b = V b) : jrs V3 x m := by
  refine ⟨k, md, gr, mn, sp, f, GA, M2, S2, A, T, c, r, t, h4, fun v hv => ?_, h6⟩
  by_cases e : v = w
  · subst e
    exact hrow
  · obtain ⟨S, X, Y, Z, q1, q2, q3⟩ := h5 v hv
    have e2 := hMo v e
    refine ⟨S, X, Y, Z, q1, ?_, ?_⟩
    · rw [e2]
      exact q2.same (hkeep v hv e)
    · rw [e2]
      exact q3.congr (fun j hj => by rw [hSo (60 * v + j) (by have q4 := q3.2.1; omega)])
/-- what lies in other rows -/
theorem jrs.others {V : jH} {k : Int32} {f : Nat → Option Nat} {GA MN SP : Nat → Int32} {A : Nat → jad} {T : jad} {w : Nat} (h5 : ∀ w : Nat, (w : Int) < k.toInt → jrow1 V f A GA MN SP w) (h6 : jsp1 k A T) (ht : jtr1 V T) (hw : (w : Int) < k.toInt) : ∀ v : Nat, (v : Int) < k.toInt → v ≠ w → ∀ b ∈ jadl (A v), b ∉ jadl (A w) ∧ b ∉ jadl T ∧ ∃ e : jE, V b = some e ∧ jsh e ∈ jRK := fun v hv hne b hb => by
  obtain ⟨S, X, Y, Z, -, q2, -⟩ := h5 v hv
  obtain ⟨S2, X2, Y2, Z2, -, p2, -⟩ := h5 w hw
  obtain ⟨g, n, S3, X3, Y3, Z3, t1, -⟩ := ht
  exact ⟨jdisj q2 p2 (h6.1 v w hv hw hne) b hb, jdisj q2 t1 (h6.2 v hv) b hb, jrw.mem q2 b hb⟩
theorem WT_ref {V : jH} {m : Nat} (hW : WT V) (h : jis V (.inr 5) m) : ∃ (rw px py pz : Nat) (RW PX PY PZ : Nat → Int32), jfR V m 5 4 rw ∧ jfR V m 5 6 px ∧ jfR V m 5 7 py ∧ jfR V m 5 8 pz ∧ V rw = some (.inl (17, 120, .inl RW)) ∧ V px = some (.inl (18, 121, .inl PX)) ∧ V py = some (.inl (19, 121, .inl PY)) ∧ V pz = some (.inl (20, 121, .inl PZ)) := by
  obtain ⟨fs, hO, hK⟩ := WT_obj hW id h
  obtain ⟨w1, f1, a, rfl, h1⟩ := hK.2 4 (.inr (some (.inl 17))) rfl
  obtain ⟨w2, f2, b, rfl, h2⟩ := hK.2 6 (.inr (some (.inl 18))) rfl
  obtain ⟨w3, f3, c, rfl, h3⟩ := hK.2 7 (.inr (some (.inl 19))) rfl
  obtain ⟨w4, f4, d, rfl, h4⟩ := hK.2 8 (.inr (some (.inl 20))) rfl
  obtain ⟨l1, S, a1, -, m1, -⟩ := WT_arrI (r := (-2147483648, 2147483647)) hW id rfl h1
  obtain ⟨l2, X, a2, -, m2, -⟩ := WT_arrI (r := (-2147483648, 2147483647)) hW id rfl h2
  obtain ⟨l3, Y, a3, -, m3, -⟩ := WT_arrI (r := (-2147483648, 2147483647)) hW id rfl h3
  obtain ⟨l4, Z, a4, -, m4, -⟩ := WT_arrI (r := (-2147483648, 2147483647)) hW id rfl h4
  obtain rfl := m1 120 rfl
  obtain rfl := m2 121 rfl
  obtain rfl := m3 121 rfl
  obtain rfl := m4 121 rfl
  exact ⟨a, b, c, d, S, X, Y, Z, ⟨_, hO, f1⟩, ⟨_, hO, f2⟩, ⟨_, hO, f3⟩, ⟨_, hO, f4⟩, a1, a2, a3, a4⟩
theorem WT_forms {V : jH} {m : Nat} (hW : WT V) (h : jis V (.inr 5) m) : ∃ (fm oh : Nat) (FM OH : Nat → Int32), jfR V m 5 9 fm ∧ jfR V m 5 10 oh ∧ V fm = some (.inl (21, 60, .inl FM)) ∧ V oh = some (.inl (22, 60, .inl OH)) := by
  obtain ⟨fs, hO, hK⟩ := WT_obj hW id h
  obtain ⟨w1, f1, a, rfl, h1⟩ := hK.2 9 (.inr (some (.inl 21))) rfl
  obtain ⟨w2, f2, b, rfl, h2⟩ := hK.2 10 (.inr (some (.inl 22))) rfl
  obtain ⟨l1, S, a1, -, m1, -⟩ := WT_arrI (r := (-2147483648, 2147483647)) hW id rfl h1
  obtain ⟨l2, X, a2, -, m2, -⟩ := WT_arrI (r := (-2147483648, 2147483647)) hW id rfl h2
  obtain rfl := m1 60 rfl
  obtain rfl := m2 60 rfl
  exact ⟨a, b, S, X, ⟨_, hO, f1⟩, ⟨_, hO, f2⟩, a1, a2⟩
theorem WT_form7 {V : jH} {x k o : Nat} (hW : WT V) (h : jfR V x 4 k o) (hk : k = 3 ∨ k = 4) : ∃ B : Nat → Int32, V o = some (.inl (7, 60, .inl B)) := by
  obtain ⟨fs, hO, hF⟩ := h
  have hK : jokO V (jFs 4) fs := hW _ _ id hO
  have hj : jis V (.inl 7) o := by
    rcases hk with rfl | rfl
    · obtain ⟨w1, f1, a, rfl, h1⟩ := hK.2 3 (.inr (some (.inl 7))) rfl
      cases hF.symm.trans f1
      exact h1
    · obtain ⟨w1, f1, a, rfl, h1⟩ := hK.2 4 (.inr (some (.inl 7))) rfl
      cases hF.symm.trans f1
      exact h1
  obtain ⟨l1, S, a1, -, m1, -⟩ := WT_arrI (r := (-2147483648, 2147483647)) hW id rfl hj
  obtain rfl := m1 60 rfl
  exact ⟨S, a1⟩
theorem jTs_congr {T U : Nat → Int} {n : Nat} {d : Int} (h : ∀ q, q < n → T q = U q) : ∀ q : Nat, jTs T n d q = jTs U n d q := fun q => by
  unfold jTs
  by_cases c : q < n
  · rw [if_pos c, if_pos c, h q c]
  · rw [if_neg c, if_neg c]
theorem jTp_congr {T U : Nat → Int} {g t k : Int} {n : Nat} (h : ∀ q, q < n → T q = U q) : ∀ q : Nat, q < n → jTp g t k T q = jTp g t k U q := fun q hq => by
  unfold jTp
  rw [h q hq]
theorem jTj_congr {T U T2 U2 : Nat → Int} {n m : Nat} (h : ∀ q, q < n → T q = U q) (h2 : ∀ q, q < m → T2 q = U2 q) : ∀ q : Nat, q < n + m → jTj T n T2 q = jTj U n U2 q := fun q hq => by
  unfold jTj
  by_cases c : q < n
  · rw [if_pos c, if_pos c, h q c]
  · rw [if_neg c, if_neg c, h2 (q - n) (by omega)]
theorem jTb_congr {T U : Nat → Int} {g : Int} {n : Nat} (h : ∀ q, q < n → T q = U q) : ∀ q : Nat, q < n → jTb g T n q = jTb g U n q := fun q hq => by
  unfold jTb
  rw [h (n - 1 - q) (by omega)]
theorem jwv.mk {g n : Int} {T : Nat → Int} {S X Y Z : Nat → Int32} (hg : 0 ≤ g ∧ g ≤ 3) (h0 : 0 ≤ n) (h1 : n ≤ 60) (hS : ∀ j : Nat, (j : Int) < n → (S j).toInt = T j) (hr : ∀ j : Nat, (j : Int) < n → 0 ≤ T j ∧ T j < jdir g) (hv : jrv g T n.toNat X Y Z) (ha : jav g T n.toNat) : jwv g n T S X Y Z := ⟨hg, ⟨h0, h1⟩, fun j hj => ⟨hS j hj, hr j hj⟩, hv, ha⟩
theorem jTs_rng {T : Nat → Int} {g n d : Int} (h0 : 0 ≤ n) (h : ∀ j : Nat, (j : Int) < n → 0 ≤ T j ∧ T j < jdir g) (hd : 0 ≤ d ∧ d < jdir g) : ∀ j : Nat, (j : Int) < n + 1 → 0 ≤ jTs T n.toNat d j ∧ jTs T n.toNat d j < jdir g := fun j hj => by
  unfold jTs
  by_cases c : j < n.toNat
  · rw [if_pos c]
    exact h j (by omega)
  · rw [if_neg c]
    exact hd
theorem jTp_rng {T : Nat → Int} {g n t k : Int} (hg : 0 ≤ g ∧ g ≤ 3) (ht : 0 ≤ t ∧ t < jtur g) (h : ∀ j : Nat, (j : Int) < n → 0 ≤ T j ∧ T j < jdir g) : ∀ j : Nat, (j : Int) < n → 0 ≤ jTp g t k T j ∧ jTp g t k T j < jdir g := fun j hj => by
  unfold jTp
  by_cases c : (j : Int) < k
  · rw [if_pos c]
    exact h j hj
  · rw [if_neg c]
    exact jtn_b hg.1 hg.2 ht.1 ht.2 (h j hj).1 (h j hj).2
theorem jTj_rng {T U : Nat → Int} {g n m : Int} (h0 : 0 ≤ n) (h : ∀ j : Nat, (j : Int) < n → 0 ≤ T j ∧ T j < jdir g) (h2 : ∀ j : Nat, (j : Int) < m → 0 ≤ U j ∧ U j < jdir g) : ∀ j : Nat, (j : Int) < n + m → 0 ≤ jTj T n.toNat U j ∧ jTj T n.toNat U j < jdir g := fun j hj => by
  unfold jTj
  by_cases c : j < n.toNat
  · rw [if_pos c]
    exact h j (by omega)
  · rw [if_neg c]
    exact h2 (j - n.toNat) (by omega)
theorem jTb_rng {T : Nat → Int} {g n : Int} (h : ∀ j : Nat, (j : Int) < n → 0 ≤ T j ∧ T j < jdir g) : ∀ j : Nat, (j : Int) < n → 0 ≤ jTb g T n.toNat j ∧ jTb g T n.toNat j < jdir g := fun j hj => by
  unfold jTb
  have q := h (n.toNat - 1 - j) (by omega)
  exact jopp_b q.1 q.2
/-- a walk was changed: first by the class, then by the reference -/
theorem jrs.done {E5 : List jKd} {V V4 V3 : jH} {x m : Nat} {k : Int32} {md gr mn sp w : Nat} {f : Nat → Option Nat} {GA MN SP M2 P2 : Nat → Int32} {A : Nat → jad} {T : jad} {n' : Int} {T' : Nat → Int} {S2 X2 Y2 Z2 : Nat → Int32} (h1 : jcl1 V x k md T.1 f) (h4 : 0 ≤ k.toInt ∧ k.toInt ≤ 16) (h5 : ∀ w : Nat, (w : Int) < k.toInt → jrow1 V f A GA MN SP w) (h6 : jsp1 k A T) (ht : jtr1 V T) (hw : (w : Int) < k.toInt) {E : List jKd} (he : jeff E V V4) (he4 : (.inr 4 : jKd) ∉ E) (hea : (.inl 4 : jKd) ∉ E) (hL : ∀ b : Nat, b ∉ jadl (A w) → b ∉ jadl T → V4 b = V b) (t4 : jtr1 V4 T) (he5 : jeff E5 V4 V3) (hd5 : ∀ k ∈ jRK, k ∉ E5) (h54 : (.inr 4 : jKd) ∉ E5) (h5a : (.inl 4 : jKd) ∉ E5) (r : jrf1 V3 m k gr mn sp GA M2 P2) (hMw : (M2 w).toInt = n') (hMo : ∀ j : Nat, j ≠ w → M2 j = MN j) (hPw : ∀ j : Nat, (j : Int) < n' → (P2 (60 * w + j)).toInt = T' j) (hPo : ∀ q : Nat, q < 60 * w ∨ 60 * w + 60 ≤ q → P2 q = SP q) (hfo : f w = some (A w).1) (hj : jrwA V4 (A w) 60 (GA w).toInt n' S2 X2 Y2 Z2) (hv : jwv (GA w).toInt n' T' S2 X2 Y2 Z2) : jrs V3 x m := by
  refine jrs.upd h4 h5 h6 ((h1.keep he he4 hea).keep he5 h54 h5a) r (t4.keep he5 hd5) hMo hPo ⟨S2, X2, Y2, Z2, hfo, ?_, ?_⟩ (fun v hv2 hne b hb => ?_)
  · rw [hMw]
    exact hj.keep he5 hd5
  · rw [hMw]
    exact hv.congr (fun j hj2 => (hPw j hj2).symm)
  · obtain ⟨n1, n2, e, q1, q2⟩ := jrs.others h5 h6 ht hw v hv2 hne b hb
    exact (he5.2 b e ((hL b n1 n2).trans q1) (hd5 _ q2)).trans q1.symm
/-- only the trial row was changed, told exactly -/
theorem jrs.tri2 {E : List jKd} {V V4 : jH} {x m : Nat} {k : Int32} {md gr mn sp : Nat} {f : Nat → Option Nat} {GA MN SP : Nat → Int32} {A : Nat → jad} {T : jad} (h1 : jcl1 V x k md T.1 f) (h2 : jrf1 V m k gr mn sp GA MN SP) (ht : jtr1 V T) (h4 : 0 ≤ k.toInt ∧ k.toInt ≤ 16) (h5 : ∀ w : Nat, (w : Int) < k.toInt → jrow1 V f A GA MN SP w) (h6 : jsp1 k A T) (he : jeff E V V4) (ho : ∀ k ∈ jOWN, k ∉ E) (hf : jfp (jadl T) V V4) (t4 : jtr1 V4 T) : jrs V4 x m := by
  refine ⟨k, md, gr, mn, sp, f, GA, MN, SP, A, T, h1.keep he (ho _ (jin_of rfl)) (ho _ (jin_of rfl)), h2.keep he (ho _ (jin_of rfl)) (ho _ (jin_of rfl)) (ho _ (jin_of rfl)) (ho _ (jin_of rfl)), t4, h4, fun w hw => (h5 w hw).same (fun b hb => hf b ?_), h6⟩
  obtain ⟨S, X, Y, Z, -, q2, -⟩ := h5 w hw
  obtain ⟨g, n, S3, X3, Y3, Z3, t1, -⟩ := ht
  exact jdisj q2 t1 (h6.2 w hw) b hb
theorem jtr1.same {V V' : jH} {T : jad} (h : jtr1 V T) (hs : ∀ b ∈ jadl T, V' b = V b) : jtr1 V' T := by
  obtain ⟨g, n, S, X, Y, Z, h1, h2⟩ := h
  exact ⟨g, n, S, X, Y, Z, h1.same hs, h2⟩
/-- a walk was made -/
theorem jrs.walked {V V3 : jH} {x m : Nat} {k k2 : Int32} {md gr mn sp q s xx yy zz : Nat} {f : Nat → Option Nat} {GA MN SP G2 M2 : Nat → Int32} {A : Nat → jad} {T : jad} (hk2 : k2.toInt = k.toInt + 1) (h4 : 0 ≤ k.toInt ∧ k.toInt < 16) (h5 : ∀ w : Nat, (w : Int) < k.toInt → jrow1 V f A GA MN SP w) (h6 : jsp1 k A T) (ht : jtr1 V T) (c : jcl1 V3 x k2 md T.1 (va_up f k.toInt.toNat (some q))) (r : jrf1 V3 m k2 gr mn sp G2 M2 SP) (t3 : jtr1 V3 T) (hn : V q = none ∧ V s = none ∧ V xx = none ∧ V yy = none ∧ V zz = none) (hj : jrw V3 q s xx yy zz 60 (G2 k.toInt.toNat).toInt 0 (fun _ => 0) (fun _ => 0) (fun _ => 0) (fun _ => 0)) (hg : 0 ≤ (G2 k.toInt.toNat).toInt ∧ (G2 k.toInt.toNat).toInt ≤ 3) (hM : (M2 k.toInt.toNat).toInt = 0) (hGo : ∀ j : Nat, j ≠ k.toInt.toNat → G2 j = GA j) (hMo : ∀ j : Nat, j ≠ k.toInt.toNat → M2 j = MN j) (hkeep : ∀ (b : Nat) (e : jE), V b = some e → jsh e ∈ jRK → V3 b = some e) : jrs V3 x m := by
  have fr : ∀ P : jad, (∀ b ∈ jadl P, ∃ e : jE, V b = some e ∧ jsh e ∈ jRK) → jsp P (q, s, xx, yy, zz) := fun P hP => by
    have key : ∀ a b : Nat, (∃ e : jE, V a = some e ∧ jsh e ∈ jRK) → V b = none → a ≠ b := fun a b ⟨e, h1, _⟩ h2 z => by
      subst z
      rw [h1] at h2
      cases h2
    exact ⟨key _ _ (hP _ (by simp [jadl])) hn.1, key _ _ (hP _ (by simp [jadl])) hn.2.1, key _ _ (hP _ (by simp [jadl])) hn.2.2.1, key _ _ (hP _ (by simp [jadl])) hn.2.2.2.1, key _ _ (hP _ (by simp [jadl])) hn.2.2.2.2⟩
  have frw : ∀ w : Nat, (w : Int) < k.toInt → jsp (A w) (q, s, xx, yy, zz) := fun w hw => by
    obtain ⟨S, X, Y, Z, -, q2, -⟩ := h5 w hw
    exact fr _ (jrw.mem q2)
  have frt : jsp T (q, s, xx, yy, zz) := by
    obtain ⟨g, n, S, X, Y, Z, t1, -⟩ := ht
    exact fr _ (jrw.mem t1)
  refine ⟨k2, md, gr, mn, sp, _, G2, M2, SP, fun w => if w = k.toInt.toNat then (q, s, xx, yy, zz) else A w, T, c, r, t3, by omega, fun w hw => ?_, fun w v hw hv hne => ?_, fun w hw => ?_⟩
  · by_cases e : w = k.toInt.toNat
    · subst e
      refine ⟨fun _ => 0, fun _ => 0, fun _ => 0, fun _ => 0, ?_, ?_, ?_⟩
      · dsimp only
        rw [if_pos rfl]
        exact va_up_self _ _ _
      · dsimp only
        rw [if_pos rfl, hM]
        exact hj
      · rw [hM]
        exact ⟨hg, by decide, fun j hj2 => absurd hj2 (by omega), fun i hi => by rw [show i = 0 from Nat.le_zero.mp hi]; exact ⟨rfl, rfl, rfl⟩, jav.zero⟩
    · obtain ⟨S, X, Y, Z, q1, q2, q3⟩ := h5 w (by omega)
      refine ⟨S, X, Y, Z, ?_, ?_, ?_⟩
      · dsimp only
        rw [if_neg e, va_up_ne _ _ e]
        exact q1
      · dsimp only
        rw [if_neg e, hGo w e, hMo w e]
        refine q2.same (fun b hb => ?_)
        obtain ⟨e2, p1, p2⟩ := jrw.mem q2 b hb
        exact (hkeep b e2 p1 p2).trans p1.symm
      · rw [hGo w e, hMo w e]
        exact q3
  · dsimp only
    by_cases e : w = k.toInt.toNat
    · by_cases e2 : v = k.toInt.toNat
      · exact absurd (e.trans e2.symm) hne
      · rw [if_pos e, if_neg e2]
        exact (frw v (by omega)).symm
    · rw [if_neg e]
      by_cases e2 : v = k.toInt.toNat
      · rw [if_pos e2]
        exact frw w (by omega)
      · rw [if_neg e2]
        exact h6.1 w v (by omega) (by omega) hne
  · dsimp only
    by_cases e : w = k.toInt.toNat
    · rw [if_pos e]
      exact frt.symm
    · rw [if_neg e]
      exact h6.2 w (by omega)
theorem jrs.init {V : jH} {x m : Nat} (hW : WT V) (hx : jis V (.inr 4) x) (hm : jis V (.inr 5) m) (h1 : jfI V x 4 1 0) (h2 : jfI V m 5 0 0) (ht : jtx V x) : jrs V x m := by
  obtain ⟨tr, s, xx, yy, zz, r0, hj⟩ := ht
  obtain ⟨fs, hO, hK⟩ := WT_obj hW id hx
  obtain ⟨w0, f0, md, rfl, hmd⟩ := hK.2 0 (.inr (some (.inl 4))) rfl
  obtain ⟨n, f, hA, -, hM, -⟩ := WT_arrR hW id rfl hmd
  obtain rfl := hM 16 rfl
  obtain ⟨gs, hO2, hK2⟩ := WT_obj hW id hm
  obtain ⟨w1, g1, gr, rfl, e1⟩ := hK2.2 1 (.inr (some (.inl 14))) rfl
  obtain ⟨w2, g2, mn, rfl, e2⟩ := hK2.2 2 (.inr (some (.inl 15))) rfl
  obtain ⟨w3, g3, sp, rfl, e3⟩ := hK2.2 3 (.inr (some (.inl 16))) rfl
  obtain ⟨l1, GA, a1, -, m1, -⟩ := WT_arrI (r := (0, 3)) hW id rfl e1
  obtain ⟨l2, MN, a2, -, m2, -⟩ := WT_arrI (r := (0, 60)) hW id rfl e2
  obtain ⟨l3, SP, a3, -, m3, -⟩ := WT_arrI (r := (-2147483648, 2147483647)) hW id rfl e3
  obtain rfl := m1 16 rfl
  obtain rfl := m2 16 rfl
  obtain rfl := m3 960 rfl
  exact ⟨0, md, gr, mn, sp, f, GA, MN, SP, fun _ => (tr, s, xx, yy, zz), (tr, s, xx, yy, zz), ⟨h1, ⟨_, hO, f0⟩, hA, r0⟩, ⟨h2, ⟨_, hO2, g1⟩, ⟨_, hO2, g2⟩, ⟨_, hO2, g3⟩, a1, a2, a3⟩, ⟨0, 0, _, _, _, _, hj, rfl, rfl, rfl⟩, by decide, fun w hw => absurd hw (by show ¬ (w : Int) < 0; omega), fun w v hw => absurd hw (by show ¬ (w : Int) < 0; omega), fun w hw => absurd hw (by show ¬ (w : Int) < 0; omega)⟩
theorem jrs.cnt {V : jH} {x m : Nat} (h : jrs V x m) : ∃ k : Int32, jfI V x 4 1 k ∧ jfI V m 5 0 k := by
  obtain ⟨k, md, gr, mn, sp, f, GA, MN, SP, A, T, h1, h2, -⟩ := h
  exact ⟨k, h1.1, h2.1⟩
/-! all that class and reference hold alike -/
def jRL (V : jH) (x m : Nat) : Prop := jrs V x m ∧ jpl V x m ∧ jff V x
abbrev jOA : List jKd := [.inr 0, .inl 43, .inr 4, .inr 5, .inl 4, .inl 14, .inl 15, .inl 16, .inr 1, .inl 6, .inl 34, .inl 35, .inl 36]
abbrev jOB : List jKd := [.inl 43, .inr 4, .inr 5, .inl 4, .inl 14, .inl 15, .inl 16, .inr 1, .inl 6, .inl 34, .inl 35, .inl 36]
abbrev jOC : List jKd := [.inr 0, .inl 43, .inr 4, .inl 4, .inl 14, .inl 15, .inl 16, .inr 1, .inl 6, .inl 34, .inl 35, .inl 36]
abbrev jOD : List jKd := [.inr 0, .inl 43, .inr 4, .inr 5, .inl 4, .inl 14, .inl 15, .inl 16]
theorem jRL.own {E : List jKd} {V V' : jH} {x m : Nat} (h : jRL V x m) (he : jeff E V V') (hd : ∀ k ∈ jOA, k ∉ E) : jRL V' x m := ⟨h.1.own he (fun k hk => hd k (jsub_of rfl k hk)) (fun k hk => hd k (jsub_of rfl k hk)), h.2.1.own he (hd _ (jin_of rfl)) (hd _ (jin_of rfl)) (hd _ (jin_of rfl)), h.2.2.mono he.1⟩
theorem jRL.ways {E : List jKd} {V V' : jH} {x m : Nat} (h : jRL V x m) (he : jeff E V V') (hk : jkc 0 [1, 2, 3] V V') (hd : ∀ k ∈ jOB, k ∉ E) : jRL V' x m := ⟨h.1.own he (fun k hk => hd k (jsub_of rfl k hk)) (fun k hk => hd k (jsub_of rfl k hk)), h.2.1.ways he hk (hd _ (jin_of rfl)) (hd _ (jin_of rfl)), h.2.2.mono he.1⟩
theorem jRL.ref {E : List jKd} {ks : List Nat} {V V' : jH} {x m : Nat} (h : jRL V x m) (he : jeff E V V') (hk : jkc 5 ks V V') (hs : ∀ k ∈ [0, 23, 24], k ∈ ks) (hd : ∀ k ∈ jOC, k ∉ E) : jRL V' x m := ⟨h.1.ref he hk (hs 0 (by decide)) (fun k hk => hd k (jsub_of rfl k hk)) (fun k hk => hd k (jsub_of rfl k hk)), h.2.1.ref he (hd _ (jin_of rfl)) hk (fun k hk2 => hs k (List.mem_cons_of_mem _ hk2)) (hd _ (jin_of rfl)), h.2.2.mono he.1⟩
theorem jRL.trial {E : List jKd} {V V' : jH} {x m : Nat} (h : jRL V x m) (hW : WT V') (he : jeff E V V') (ht : jrt x V V') (hd : ∀ k ∈ jOD, k ∉ E) : jRL V' x m := ⟨h.1.trial hW he (fun k hk => hd k (jsub_of rfl k hk)) ht, h.2.1.own he (hd _ (jin_of rfl)) (hd _ (jin_of rfl)) (hd _ (jin_of rfl)), h.2.2.mono he.1⟩
