theorem jI_inj {x y : Int32} : x.toInt = y.toInt ↔ x = y := Int32.toInt_inj
theorem jI_zero {x : Int32} : x = 0 ↔ x.toInt = 0 := ⟨fun h => by rw [h]; rfl, fun h => Int32.toInt_inj.mp (by rw [h]; rfl)⟩
/-- hidden from arithmetic until it is asked for -/
def jEq (a b : Int) : Prop := a = b
theorem jEq.eq {a b : Int} (h : jEq a b) : a = b := h
theorem jEq.rf {a : Int} : jEq a a := rfl
def jIf (y : Int32) (c : Int) (P : Prop) : Prop := y.toInt = c → P
def jImp (P R : Prop) : Prop := P → R
theorem jIf.of {y : Int32} {c : Int} {P : Prop} (h : jIf y c P) (h2 : y.toInt = c) : P := h h2
theorem jImp.of {P R : Prop} (h : jImp P R) (h2 : P) : R := h h2
def jfL (V : jH) (a ci k : Nat) (y : Int64) : Prop := ∃ fs : List Value, V a = some (.inr (ci, fs)) ∧ fs[k]? = some (.long y)
theorem jfL.get {V : jH} {a ci k : Nat} {y : Int64} {fs : List Value} (h : jfL V a ci k y) (hO : V a = some (.inr (ci, fs))) : fs[k]? = some (.long y) := by
  obtain ⟨fs2, h1, h2⟩ := h
  cases h1.symm.trans hO
  exact h2
theorem jfL.keep {E : List jKd} {V V' : jH} {a ci k : Nat} {y : Int64} (h : jfL V a ci k y) (he : jeff E V V') (hn : (.inr ci : jKd) ∉ E) : jfL V' a ci k y := by
  obtain ⟨fs, h1, h2⟩ := h
  exact ⟨fs, he.2 _ _ h1 hn, h2⟩
theorem jfI.get {V : jH} {a ci k : Nat} {y : Int32} {fs : List Value} (h : jfI V a ci k y) (hO : V a = some (.inr (ci, fs))) : fs[k]? = some (.int y) := by
  obtain ⟨fs2, h1, h2⟩ := h
  cases h1.symm.trans hO
  exact h2
theorem jfR.get {V : jH} {a ci k : Nat} {b : Nat} {fs : List Value} (h : jfR V a ci k b) (hO : V a = some (.inr (ci, fs))) : fs[k]? = some (.ref b) := by
  obtain ⟨fs2, h1, h2⟩ := h
  cases h1.symm.trans hO
  exact h2
theorem jext.keep {V V' : jH} (h : jext V V') {a ci : Nat} {fs : List Value} (hV : V a = some (.inr (ci, fs))) : ∃ fs' : List Value, V' a = some (.inr (ci, fs')) ∧ ∀ k b : Nat, fs[k]? = some (.ref b) → fs'[k]? = some (.ref b) := by
  obtain ⟨e', h1, h2⟩ := h a _ hV
  match e', h1, h2 with
  | .inr (c, fs'), h1, h2 =>
    have h3 : c = ci := h2.1
    subst h3
    exact ⟨fs', h1, h2.2⟩
theorem WT_rngI {p : Nat → Prop} {V : jH} {t a n : Nat} {f : Nat → Int32} {r : Int × Int} (hW : WTx p V) (hp : ¬ p a) (hc : jAc t = .inl r) (hA : V a = some (.inl (t, n, .inl f))) : n < 2 ^ 31 ∧ ∀ j, j < n → r.1 ≤ (f j).toInt ∧ (f j).toInt ≤ r.2 := by
  obtain ⟨n2, f2, h1, h2, h3, h4⟩ := WT_arrI hW hp hc ⟨_, hA, rfl⟩
  cases hA.symm.trans h1
  exact ⟨h2, h4⟩
theorem jz_div {x y : Int32} (hx : 0 ≤ x.toInt) (hy : 0 < y.toInt) : (x / y).toInt = x.toInt / y.toInt := by
  have h1 := j_rng x
  have h2 := j_rng y
  have h3 : x.toInt / y.toInt ≤ x.toInt := Int.ediv_le_self _ hx
  have h4 : 0 ≤ x.toInt / y.toInt := Int.ediv_nonneg hx (by omega)
  rw [Int32.toInt_div, Int.tdiv_eq_ediv_of_nonneg hx, Int.bmod_eq_of_le (by omega) (by omega)]
theorem jz_rem {x y : Int32} (hx : 0 ≤ x.toInt) (hy : 0 < y.toInt) : (x - x / y * y).toInt = x.toInt % y.toInt := by
  have h1 := jz_div hx hy
  have h2 := Int.emod_def x.toInt y.toInt
  have h3 := Int.emod_nonneg x.toInt (show y.toInt ≠ 0 by omega)
  have h4 := j_rng x
  have h5 : 0 ≤ (x / y).toInt * y.toInt := by rw [h1]; exact Int.mul_nonneg (Int.ediv_nonneg hx (by omega)) (by omega)
  have h6 : (x / y).toInt * y.toInt = y.toInt * (x.toInt / y.toInt) := by rw [h1, Int.mul_comm]
  have h7 := j_mul (x := x / y) (y := y) (by omega) (by omega)
  have h8 := j_sub (x := x) (y := x / y * y) (by omega) (by omega)
  omega
theorem jok_rngI {V : jH} {cs : List jFC} {fs : List Value} {k : Nat} {r : Int × Int} {x : Int32} (h : jokO V cs fs) (hc : cs[k]? = some (.inl r)) (hF : fs[k]? = some (.int x)) : r.1 ≤ x.toInt ∧ x.toInt ≤ r.2 := by
  obtain ⟨v, h1, y, rfl, h2, h3⟩ := h.2 k _ hc
  cases hF.symm.trans h1
  exact ⟨h2, h3⟩
/-- how many of the first n places hold another number than c -/
def jcn (c : Int) (F : Nat → Int32) : Nat → Nat
  | 0 => 0
  | n + 1 => jcn c F n + (if (F n).toInt = c then 0 else 1)
theorem jcn_le {c : Int} {F : Nat → Int32} : ∀ n : Nat, jcn c F n ≤ n
  | 0 => Nat.le_refl _
  | n + 1 => by
    have h := jcn_le (c := c) (F := F) n
    unfold jcn
    split <;> omega
theorem jcn_lt {c : Int} {F : Nat → Int32} {k : Nat} (hF : (F k).toInt = c) : ∀ n : Nat, k < n → jcn c F n < n
  | 0, h => absurd h (Nat.not_lt_zero _)
  | n + 1, h => by
    have h1 := jcn_le (c := c) (F := F) n
    unfold jcn
    by_cases hk : k = n
    · subst hk
      rw [if_pos hF]
      omega
    · have h2 := jcn_lt hF n (by omega)
      split <;> omega
theorem jcn_congr {c : Int} {F G : Nat → Int32} : ∀ n : Nat, (∀ k, k < n → G k = F k) → jcn c G n = jcn c F n
  | 0, _ => rfl
  | n + 1, h => by
    have h1 := jcn_congr (c := c) n (fun k hk => h k (by omega))
    unfold jcn
    rw [h1, h n (by omega)]
theorem jcn_up {c : Int} {F G : Nat → Int32} {k : Nat} (hF : (F k).toInt = c) (hG : ¬ (G k).toInt = c) (ho : ∀ j, j ≠ k → G j = F j) : ∀ n : Nat, k < n → jcn c G n = jcn c F n + 1
  | 0, h => absurd h (Nat.not_lt_zero _)
  | n + 1, h => by
    unfold jcn
    by_cases hk : k = n
    · subst hk
      rw [jcn_congr k (fun j hj => ho j (by omega)), if_pos hF, if_neg hG]
    · rw [jcn_up hF hG ho n (by omega), ho n (by omega)]
      omega
theorem jcn_dn {c : Int} {F G : Nat → Int32} {k n : Nat} (hF : ¬ (F k).toInt = c) (hG : (G k).toInt = c) (ho : ∀ j, j ≠ k → G j = F j) (h : k < n) : jcn c F n = jcn c G n + 1 := jcn_up hG hF (fun j hj => (ho j hj).symm) n h
theorem jcn_zero {c : Int} {F : Nat → Int32} : ∀ n : Nat, (∀ k, k < n → (F k).toInt = c) → jcn c F n = 0
  | 0, _ => rfl
  | n + 1, h => by
    unfold jcn
    rw [jcn_zero n (fun k hk => h k (by omega)), if_pos (h n (by omega))]
theorem jcn_one {c : Int} {F : Nat → Int32} {n : Nat} (h0 : ¬ (F 0).toInt = c) (h : ∀ k, 0 < k → k < n → (F k).toInt = c) (hn : 0 < n) : jcn c F n = 1 := by
  induction n with
  | zero => exact absurd hn (Nat.lt_irrefl _)
  | succ n ih =>
    unfold jcn
    by_cases hz : n = 0
    · subst hz
      rw [if_neg h0]
      rfl
    · rw [ih (fun k h1 h2 => h k h1 (by omega)) (by omega), if_pos (h n (by omega) (by omega))]
theorem jcn_ge {c : Int} {F G : Nat → Int32} {k : Nat} (hG : ¬ (G k).toInt = c) (ho : ∀ j, j ≠ k → G j = F j) : ∀ n : Nat, jcn c F n ≤ jcn c G n
  | 0 => Nat.le_refl _
  | n + 1 => by
    have ih := jcn_ge hG ho n
    unfold jcn
    by_cases hk : n = k
    · subst hk
      rw [if_neg hG]
      split <;> omega
    · rw [ho n hk]
      split <;> omega
/-- powers -/
def jpw (d : Int) : Nat → Int
  | 0 => 1
  | n + 1 => d * jpw d n
theorem jpw_pos {d : Int} (h : 1 ≤ d) : ∀ n : Nat, 1 ≤ jpw d n
  | 0 => Int.le_refl _
  | n + 1 => by
    have h1 := jpw_pos h n
    have h2 := Int.mul_le_mul_of_nonneg_right h (show 0 ≤ jpw d n by omega)
    show 1 ≤ d * jpw d n
    omega
theorem jpw_mono {d : Int} (h : 1 ≤ d) {a b : Nat} (hab : a ≤ b) : jpw d a ≤ jpw d b := by
  induction b with
  | zero => rw [show a = 0 by omega]; exact Int.le_refl _
  | succ b ih =>
    by_cases hq : a = b + 1
    · rw [hq]; exact Int.le_refl _
    · have h1 := ih (by omega)
      have h2 := jpw_pos h b
      have h3 := Int.mul_le_mul_of_nonneg_right h (show 0 ≤ jpw d b by omega)
      show jpw d a ≤ d * jpw d b
      omega
theorem jpw_le6 {d : Int} (h : 1 ≤ d) (h6 : d ≤ 6) {n : Nat} (hn : n ≤ 7) : jpw d n ≤ 279936 := by
  have h1 := jpw_mono h hn
  have h2 : ∀ n : Nat, jpw d n ≤ jpw 6 n := by
    intro n
    induction n with
    | zero => exact Int.le_refl _
    | succ n ih =>
      have h3 := Int.mul_le_mul_of_nonneg_left ih (show 0 ≤ d by omega)
      have h4 := Int.mul_le_mul_of_nonneg_right h6 (show 0 ≤ jpw 6 n by have := jpw_pos (d := 6) (by omega) n; omega)
      show d * jpw d n ≤ 6 * jpw 6 n
      omega
  have h3 := h2 7
  have h4 : jpw 6 7 = 279936 := by decide
  omega
theorem jto_step {d a P r : Int} (h1 : 0 ≤ a) (h2 : a < P) (h3 : 0 ≤ r) (h4 : r < d) : 0 ≤ d * a ∧ 0 ≤ d * a + r ∧ d * a + r < d * P := by
  have h5 := Int.mul_nonneg (show 0 ≤ d by omega) h1
  have h6 := Int.mul_le_mul_of_nonneg_left (show a + 1 ≤ P by omega) (show 0 ≤ d by omega)
  rw [Int.mul_add, Int.mul_one] at h6
  omega
/-- a place's number on a board -/
theorem jcell_zero {x y w : Int} (hx : 0 ≤ x) (hw : 0 < w) (hy : 0 ≤ y) : x + w * y = 0 ↔ x = 0 ∧ y = 0 := by
  constructor
  · intro h
    have h1 := Int.mul_nonneg (show 0 ≤ w by omega) hy
    by_cases hy0 : y = 0
    · subst hy0
      omega
    · have h2 := Int.mul_le_mul_of_nonneg_left (show 1 ≤ y by omega) (show 0 ≤ w by omega)
      omega
  · rintro ⟨rfl, rfl⟩
    omega
theorem jcell_last {x y w h : Int} (hx : 0 ≤ x) (hxw : x < w) (hy : 0 ≤ y) (hyh : y < h) : x + w * y = w * h - 1 ↔ x = w - 1 ∧ y = h - 1 := by
  have h1 : w * (h - 1) = w * h - w := by rw [Int.mul_sub, Int.mul_one]
  constructor
  · intro q
    by_cases hy1 : y = h - 1
    · subst hy1
      omega
    · have h2 := Int.mul_le_mul_of_nonneg_left (show y + 1 ≤ h - 1 by omega) (show 0 ≤ w by omega)
      rw [Int.mul_add, Int.mul_one] at h2
      omega
  · rintro ⟨rfl, rfl⟩
    omega
def jdir (g : Int) : Int := if g = 0 then 4 else if g = 2 then 3 else 6
def jtur (g : Int) : Int := if g = 0 then 8 else if g = 1 then 12 else if g = 3 then 48 else 0
theorem jdir_cases (g : Int) : (g = 0 ∧ jdir g = 4) ∨ (g = 2 ∧ jdir g = 3) ∨ (¬ g = 0 ∧ ¬ g = 2 ∧ jdir g = 6) := by
  unfold jdir
  by_cases h : g = 0
  · exact Or.inl ⟨h, by rw [if_pos h]⟩
  by_cases h2 : g = 2
  · exact Or.inr (Or.inl ⟨h2, by rw [if_neg h, if_pos h2]⟩)
  · exact Or.inr (Or.inr ⟨h, h2, by rw [if_neg h, if_neg h2]⟩)
theorem jtur_cases (g : Int) : (g = 0 ∧ jtur g = 8) ∨ (g = 1 ∧ jtur g = 12) ∨ (g = 3 ∧ jtur g = 48) ∨ (¬ g = 0 ∧ ¬ g = 1 ∧ ¬ g = 3 ∧ jtur g = 0) := by
  unfold jtur
  by_cases h : g = 0
  · exact Or.inl ⟨h, by rw [if_pos h]⟩
  by_cases h1 : g = 1
  · exact Or.inr (Or.inl ⟨h1, by rw [if_neg h, if_pos h1]⟩)
  by_cases h3 : g = 3
  · exact Or.inr (Or.inr (Or.inl ⟨h3, by rw [if_neg h, if_neg h1, if_pos h3]⟩))
  · exact Or.inr (Or.inr (Or.inr ⟨h, h1, h3, by rw [if_neg h, if_neg h1, if_neg h3]⟩))
theorem jsw6 (x : Int32) : x = 0 ∨ x = 1 ∨ x = 2 ∨ x = 3 ∨ x = 4 ∨ x = 5 ∨ x = 6 ∨ x.toInt < 0 ∨ 6 < x.toInt := by
  by_cases h0 : x.toInt < 0
  · exact Or.inr (Or.inr (Or.inr (Or.inr (Or.inr (Or.inr (Or.inr (Or.inl h0)))))))
  by_cases h1 : 6 < x.toInt
  · exact Or.inr (Or.inr (Or.inr (Or.inr (Or.inr (Or.inr (Or.inr (Or.inr h1)))))))
  rcases (show x.toInt = 0 ∨ x.toInt = 1 ∨ x.toInt = 2 ∨ x.toInt = 3 ∨ x.toInt = 4 ∨ x.toInt = 5 ∨ x.toInt = 6 by omega) with h | h | h | h | h | h | h
  · exact Or.inl (Int32.toInt_inj.mp (by rw [h]; rfl))
  · exact Or.inr (Or.inl (Int32.toInt_inj.mp (by rw [h]; rfl)))
  · exact Or.inr (Or.inr (Or.inl (Int32.toInt_inj.mp (by rw [h]; rfl))))
  · exact Or.inr (Or.inr (Or.inr (Or.inl (Int32.toInt_inj.mp (by rw [h]; rfl)))))
  · exact Or.inr (Or.inr (Or.inr (Or.inr (Or.inl (Int32.toInt_inj.mp (by rw [h]; rfl))))))
  · exact Or.inr (Or.inr (Or.inr (Or.inr (Or.inr (Or.inl (Int32.toInt_inj.mp (by rw [h]; rfl)))))))
  · exact Or.inr (Or.inr (Or.inr (Or.inr (Or.inr (Or.inr (Or.inl (Int32.toInt_inj.mp (by rw [h]; rfl))))))))
/-- the arrays of role 9: no place becomes -1 -/
def jle9 (V V' : jH) : Prop := ∀ (a : Nat) (h : Nat → Int32), V a = some (.inl (9, 7, .inl h)) → ∃ h' : Nat → Int32, V' a = some (.inl (9, 7, .inl h')) ∧ jcn (-1) h 7 ≤ jcn (-1) h' 7
theorem jle9.rf {V : jH} : jle9 V V := fun _ h q => ⟨h, q, Nat.le_refl _⟩
theorem jle9.trans {V1 V2 V3 : jH} (h1 : jle9 V1 V2) (h2 : jle9 V2 V3) : jle9 V1 V3 := fun a h q => by
  obtain ⟨h', q1, l1⟩ := h1 a h q
  obtain ⟨h3, q2, l2⟩ := h2 a h' q1
  exact ⟨h3, q2, Nat.le_trans l1 l2⟩
theorem jle9.of {E : List jKd} {V V' : jH} (h : jeff E V V') (h9 : (.inl 9 : jKd) ∉ E) : jle9 V V' := fun a f q => ⟨f, h.2 a _ q h9, Nat.le_refl _⟩
theorem jfI.keep {E : List jKd} {V V' : jH} {a ci k : Nat} {y : Int32} (h : jfI V a ci k y) (he : jeff E V V') (hn : (.inr ci : jKd) ∉ E) : jfI V' a ci k y := by
  obtain ⟨fs, h1, h2⟩ := h
  exact ⟨fs, he.2 _ _ h1 hn, h2⟩
theorem jfI.kp {c : Nat} {ks : List Nat} {V V' : jH} {a k : Nat} {y : Int32} (h : jfI V a c k y) (hk : jkc c ks V V') (hm : k ∈ ks) : jfI V' a c k y := by
  obtain ⟨fs, h1, h2⟩ := h
  obtain ⟨fs', h3, h4⟩ := hk a fs h1
  exact ⟨fs', h3, (h4 k hm).trans h2⟩
/-- a comparison of longs, hidden from arithmetic -/
def jLc (z : Int32) (x y : Int64) : Prop := z.toInt = 0 ↔ x = y
theorem jLc_of {x y : Int64} : jLc (lg_cmp x y) x y := jI_zero.symm.trans (lg_cmp_eq x y)
/-- bits of a long -/
def jbt (v : Int64) (n : Nat) : Bool := v.toBitVec.getLsbD n
/-- nothing but what L names is changed -/
def jfp (L : List Nat) (V V' : jH) : Prop := ∀ b : Nat, b ∉ L → V' b = V b
theorem jfp.rf {L : List Nat} {V : jH} : jfp L V V := fun _ _ => rfl
theorem jfp.trans {L : List Nat} {V1 V2 V3 : jH} (h1 : jfp L V1 V2) (h2 : jfp L V2 V3) : jfp L V1 V3 := fun b hb => (h2 b hb).trans (h1 b hb)
theorem jfp.one {L : List Nat} {V V' : jH} {a : Nat} (h : ∀ b : Nat, b ≠ a → V' b = V b) (ha : a ∈ L) : jfp L V V' := fun b hb => h b (fun e => hb (e ▸ ha))
theorem jfp.sub {L L' : List Nat} {V V' : jH} (h : jfp L' V V') (hs : ∀ b ∈ L', b ∈ L) : jfp L V V' := fun b hb => h b (fun q => hb (hs b q))
theorem jin_of {k : jKd} {E : List jKd} (h : jmemB k E = true) : k ∈ E := jmemB_iff.mp h
theorem jdis_of {A E : List jKd} (h : A.all (fun k => !jmemB k E) = true) : ∀ k ∈ A, k ∉ E := fun k hk => jnot_of (by
  have q := List.all_eq_true.mp h k hk
  simpa using q)
/-- what was there, but for L, is as it was -/
def jfa (L : List Nat) (V V' : jH) : Prop := ∀ (b : Nat) (e : jE), b ∉ L → V b = some e → V' b = some e
theorem jfa.rf {L : List Nat} {V : jH} : jfa L V V := fun _ _ _ h => h
theorem jfa.trans {L : List Nat} {V1 V2 V3 : jH} (h1 : jfa L V1 V2) (_ : jext V1 V2) (h2 : jfa L V2 V3) : jfa L V1 V3 := fun b e hb h => h2 b e hb (h1 b e hb h)
theorem jfa.one {q : Nat} {V V' : jH} (h : ∀ b : Nat, b ≠ q → V' b = V b) : jfa [q] V V' := fun b e hb q2 => (h b (fun z => hb (z ▸ List.mem_cons_self))).trans q2
theorem jfa.new {L : List Nat} {V V' : jH} (h : ∀ (b : Nat) (e : jE), V b = some e → V' b = some e) : jfa L V V' := fun b e _ q => h b e q
/-- of all rows only one, a, may have changed; its room, and where it begins, are as they were -/
abbrev jRK : List jKd := [.inr 1, .inl 6, .inl 34, .inl 35, .inl 36]
def jk0 (t b : Nat) (V V' : jH) : Prop := ∀ (n : Nat) (f : Nat → Int32), V b = some (.inl (t, n, .inl f)) → ∃ f' : Nat → Int32, V' b = some (.inl (t, n, .inl f')) ∧ f' 0 = f 0
def jk1 (t b : Nat) (V V' : jH) : Prop := ∀ (n : Nat) (f : Nat → Int32), V b = some (.inl (t, n, .inl f)) → ∃ f' : Nat → Int32, V' b = some (.inl (t, n, .inl f'))
def jrk (a : Nat) (V V' : jH) : Prop := ∀ s x y z : Nat, jfR V a 1 1 s → jfR V a 1 2 x → jfR V a 1 3 y → jfR V a 1 4 z → (∀ (b : Nat) (e : jE), b ∉ [a, s, x, y, z] → V b = some e → jsh e ∈ jRK → V' b = some e) ∧ (∀ M : Int32, jfI V a 1 0 M → jfI V' a 1 0 M) ∧ jk1 6 s V V' ∧ jk0 34 x V V' ∧ jk0 35 y V V' ∧ jk0 36 z V V'
theorem jfR.mono {V V' : jH} {a ci k b : Nat} (h : jfR V a ci k b) (hx : jext V V') : jfR V' a ci k b := by
  obtain ⟨fs, h1, h2⟩ := h
  obtain ⟨fs2, h3, h4⟩ := hx.keep h1
  exact ⟨fs2, h3, h4 _ _ h2⟩
theorem jk0.rf {t b : Nat} {V : jH} : jk0 t b V V := fun _ f h => ⟨f, h, rfl⟩
theorem jk1.rf {t b : Nat} {V : jH} : jk1 t b V V := fun _ f h => ⟨f, h⟩
theorem jk0.trans {t b : Nat} {V1 V2 V3 : jH} (h1 : jk0 t b V1 V2) (h2 : jk0 t b V2 V3) : jk0 t b V1 V3 := fun n f h => by
  obtain ⟨f2, q1, q2⟩ := h1 n f h
  obtain ⟨f3, q3, q4⟩ := h2 n f2 q1
  exact ⟨f3, q3, q4.trans q2⟩
theorem jk1.trans {t b : Nat} {V1 V2 V3 : jH} (h1 : jk1 t b V1 V2) (h2 : jk1 t b V2 V3) : jk1 t b V1 V3 := fun n f h => by
  obtain ⟨f2, q1⟩ := h1 n f h
  obtain ⟨f3, q3⟩ := h2 n f2 q1
  exact ⟨f3, q3⟩
theorem jk0.mk {b t n : Nat} {V V' : jH} {f f' : Nat → Int32} (h : V b = some (.inl (t, n, .inl f))) (h' : V' b = some (.inl (t, n, .inl f'))) (e : f' 0 = f 0) : jk0 t b V V' := fun n2 f2 q => by
  cases h.symm.trans q
  exact ⟨f', h', e⟩
theorem jk1.mk {b t n : Nat} {V V' : jH} {f f' : Nat → Int32} (h : V b = some (.inl (t, n, .inl f))) (h' : V' b = some (.inl (t, n, .inl f'))) : jk1 t b V V' := fun n2 f2 q => by
  cases h.symm.trans q
  exact ⟨f', h'⟩
theorem jrk.rf {a : Nat} {V : jH} : jrk a V V := fun _ _ _ _ _ _ _ _ => ⟨fun _ _ _ h _ => h, fun _ h => h, jk1.rf, jk0.rf, jk0.rf, jk0.rf⟩
theorem jrk.trans {a : Nat} {V1 V2 V3 : jH} (h1 : jrk a V1 V2) (hx : jext V1 V2) (h2 : jrk a V2 V3) : jrk a V1 V3 := fun s x y z r1 r2 r3 r4 => by
  obtain ⟨a1, a2, a3, a4, a5, a6⟩ := h1 s x y z r1 r2 r3 r4
  obtain ⟨b1, b2, b3, b4, b5, b6⟩ := h2 s x y z (r1.mono hx) (r2.mono hx) (r3.mono hx) (r4.mono hx)
  exact ⟨fun b e hb h hk => b1 b e hb (a1 b e hb h hk) hk, fun M h => b2 M (a2 M h), a3.trans b3, a4.trans b4, a5.trans b5, a6.trans b6⟩
theorem jrk.of {E : List jKd} {a : Nat} {V V' : jH} (h : jeff E V V') (hn : ∀ k ∈ jRK, k ∉ E) : jrk a V V' := fun s x y z _ _ _ _ =>
  ⟨fun b e _ hb hk => h.2 b e hb (hn _ hk), fun M q => q.keep h (hn _ (jin_of rfl)), fun n f q => ⟨f, h.2 _ _ q (hn (.inl 6) (jin_of rfl))⟩, fun n f q => ⟨f, h.2 _ _ q (hn (.inl 34) (jin_of rfl)), rfl⟩, fun n f q => ⟨f, h.2 _ _ q (hn (.inl 35) (jin_of rfl)), rfl⟩, fun n f q => ⟨f, h.2 _ _ q (hn (.inl 36) (jin_of rfl)), rfl⟩⟩
theorem jfR.fun {V : jH} {a ci k b c : Nat} (h1 : jfR V a ci k b) (h2 : jfR V a ci k c) : b = c := by
  obtain ⟨fs, q1, q2⟩ := h1
  have q3 := h2.get q1
  rw [q2] at q3
  cases q3
  rfl
theorem jfI.fun {V : jH} {a ci k : Nat} {b c : Int32} (h1 : jfI V a ci k b) (h2 : jfI V a ci k c) : b = c := by
  obtain ⟨fs, q1, q2⟩ := h1
  have q3 := h2.get q1
  rw [q2] at q3
  cases q3
  rfl
theorem jrk.mk {a s x y z : Nat} {M : Int32} {V V' : jH} (r1 : jfR V a 1 1 s) (r2 : jfR V a 1 2 x) (r3 : jfR V a 1 3 y) (r4 : jfR V a 1 4 z) (hf : jfp [a, s, x, y, z] V V') (m1 : jfI V a 1 0 M) (m2 : jfI V' a 1 0 M) (k1 : jk1 6 s V V') (k2 : jk0 34 x V V') (k3 : jk0 35 y V V') (k4 : jk0 36 z V V') : jrk a V V' := fun s2 x2 y2 z2 q1 q2 q3 q4 => by
  obtain rfl := r1.fun q1
  obtain rfl := r2.fun q2
  obtain rfl := r3.fun q3
  obtain rfl := r4.fun q4
  exact ⟨fun b e hb h _ => (hf b hb).trans h, fun M2 h => by rw [h.fun m1]; exact m2, k1, k2, k3, k4⟩
theorem WT_row {V : jH} {a : Nat} (hW : WT V) (h : jis V (.inr 1) a) : ∃ (M n : Int32) (s x y z l1 l2 l3 l4 : Nat) (S X Y Z : Nat → Int32), jfI V a 1 0 M ∧ jfI V a 1 6 n ∧ jfR V a 1 1 s ∧ jfR V a 1 2 x ∧ jfR V a 1 3 y ∧ jfR V a 1 4 z ∧ V s = some (.inl (6, l1, .inl S)) ∧ V x = some (.inl (34, l2, .inl X)) ∧ V y = some (.inl (35, l3, .inl Y)) ∧ V z = some (.inl (36, l4, .inl Z)) := by
  obtain ⟨fs, hO, hK⟩ := WT_obj hW id h
  obtain ⟨w0, f0, M, rfl, -⟩ := hK.2 0 (.inl (0, 120)) rfl
  obtain ⟨w6, f6, n, rfl, -⟩ := hK.2 6 (.inl (0, 120)) rfl
  obtain ⟨w1, f1, s, rfl, h1⟩ := hK.2 1 (.inr (some (.inl 6))) rfl
  obtain ⟨w2, f2, x, rfl, h2⟩ := hK.2 2 (.inr (some (.inl 34))) rfl
  obtain ⟨w3, f3, y, rfl, h3⟩ := hK.2 3 (.inr (some (.inl 35))) rfl
  obtain ⟨w4, f4, z, rfl, h4⟩ := hK.2 4 (.inr (some (.inl 36))) rfl
  obtain ⟨l1, S, a1, -⟩ := WT_arrI (r := (-2147483648, 2147483647)) hW id rfl h1
  obtain ⟨l2, X, a2, -⟩ := WT_arrI (r := (-2147483648, 2147483647)) hW id rfl h2
  obtain ⟨l3, Y, a3, -⟩ := WT_arrI (r := (-2147483648, 2147483647)) hW id rfl h3
  obtain ⟨l4, Z, a4, -⟩ := WT_arrI (r := (-2147483648, 2147483647)) hW id rfl h4
  exact ⟨M, n, s, x, y, z, l1, l2, l3, l4, S, X, Y, Z, ⟨_, hO, f0⟩, ⟨_, hO, f6⟩, ⟨_, hO, f1⟩, ⟨_, hO, f2⟩, ⟨_, hO, f3⟩, ⟨_, hO, f4⟩, a1, a2, a3, a4⟩
/-- the same of the trial row of a class's object -/
def jrt (a : Nat) (V V' : jH) : Prop := ∀ tr : Nat, jfR V a 4 2 tr → jrk tr V V'
theorem jrt.rf {a : Nat} {V : jH} : jrt a V V := fun _ _ => jrk.rf
theorem jrt.trans {a : Nat} {V1 V2 V3 : jH} (h1 : jrt a V1 V2) (hx : jext V1 V2) (h2 : jrt a V2 V3) : jrt a V1 V3 := fun tr q => (h1 tr q).trans hx (h2 tr (q.mono hx))
theorem jrt.of {E : List jKd} {a : Nat} {V V' : jH} (h : jeff E V V') (hn : ∀ k ∈ jRK, k ∉ E) : jrt a V V' := fun _ _ => jrk.of h hn
theorem jrt.call {a b : Nat} {V V' : jH} {fs : List Value} (hO : V a = some (.inr (4, fs))) (hF : fs[2]? = some (.ref b)) (h : jrk b V V') : jrt a V V' := fun tr q => by
  cases (q.get hO).symm.trans hF
  exact h
/-- a Row of the class: where its arrays are, how long, its ground, its size, what the arrays hold -/
def jrw (V : jH) (a s x y z ln : Nat) (g n : Int) (S X Y Z : Nat → Int32) : Prop := (∃ q : Int32, jfI V a 1 0 q ∧ q.toInt = (ln : Int)) ∧ (∃ q : Int32, jfI V a 1 5 q ∧ q.toInt = g) ∧ (∃ q : Int32, jfI V a 1 6 q ∧ q.toInt = n) ∧ jfR V a 1 1 s ∧ jfR V a 1 2 x ∧ jfR V a 1 3 y ∧ jfR V a 1 4 z ∧ V s = some (.inl (6, ln, .inl S)) ∧ V x = some (.inl (34, ln + 1, .inl X)) ∧ V y = some (.inl (35, ln + 1, .inl Y)) ∧ V z = some (.inl (36, ln + 1, .inl Z))
theorem jrw.keep {E : List jKd} {V V' : jH} {a s x y z ln : Nat} {g n : Int} {S X Y Z : Nat → Int32} (h : jrw V a s x y z ln g n S X Y Z) (he : jeff E V V') (hn : ∀ k ∈ jRK, k ∉ E) : jrw V' a s x y z ln g n S X Y Z := by
  obtain ⟨⟨q0, a0, b0⟩, ⟨q5, a5, b5⟩, ⟨q6, a6, b6⟩, r1, r2, r3, r4, c1, c2, c3, c4⟩ := h
  exact ⟨⟨q0, a0.keep he (hn _ (jin_of rfl)), b0⟩, ⟨q5, a5.keep he (hn _ (jin_of rfl)), b5⟩, ⟨q6, a6.keep he (hn _ (jin_of rfl)), b6⟩, r1.mono he.1, r2.mono he.1, r3.mono he.1, r4.mono he.1, he.2 _ _ c1 (hn _ (jin_of rfl)), he.2 _ _ c2 (hn _ (jin_of rfl)), he.2 _ _ c3 (hn _ (jin_of rfl)), he.2 _ _ c4 (hn _ (jin_of rfl))⟩
def jnw (V0 V : jH) (q : Nat) (x : Int32) : Prop := ∃ s xx yy zz : Nat, (V0 s = none ∧ V0 xx = none ∧ V0 yy = none ∧ V0 zz = none) ∧ jrw V q s xx yy zz (jmost x).toInt.toNat 0 0 (fun _ => 0) (fun _ => 0) (fun _ => 0) (fun _ => 0) ∧ jfa [q] V0 V
theorem jmost_eq {x : Int32} (h0 : 0 ≤ x.toInt) (h1 : x.toInt ≤ 120) : (jmost x).toInt = x.toInt := by
  have e0 : (0 : Int32).toInt = 0 := rfl
  have e1 : (120 : Int32).toInt = 120 := rfl
  unfold jmost
  simp only [jlt, e0, e1]
  (repeat' split) <;> omega
theorem jnw.mk {V0 V : jH} {q s xx yy zz : Nat} {x : Int32} (n1 : V0 s = none) (n2 : V0 xx = none) (n3 : V0 yy = none) (n4 : V0 zz = none) (m0 : jfI V q 1 0 (jmost x)) (m5 : jfI V q 1 5 0) (m6 : jfI V q 1 6 0) (r1 : jfR V q 1 1 s) (r2 : jfR V q 1 2 xx) (r3 : jfR V q 1 3 yy) (r4 : jfR V q 1 4 zz) (a1 : V s = some (.inl (6, (jmost x).toNatClampNeg, .inl (fun _ => 0)))) (a2 : V xx = some (.inl (34, (jmost x + 1).toNatClampNeg, .inl (fun _ => 0)))) (a3 : V yy = some (.inl (35, (jmost x + 1).toNatClampNeg, .inl (fun _ => 0)))) (a4 : V zz = some (.inl (36, (jmost x + 1).toNatClampNeg, .inl (fun _ => 0)))) (hf : jfa [q] V0 V) : jnw V0 V q x := by
  have h0 := jmost_lo x
  have h1 := jmost_hi0 x
  have e : (jmost x + 1).toNatClampNeg = (jmost x).toInt.toNat + 1 := by
    show (jmost x + 1).toInt.toNat = _
    rw [j_add1 (by omega)]
    omega
  rw [e] at a2 a3 a4
  exact ⟨s, xx, yy, zz, ⟨n1, n2, n3, n4⟩, ⟨⟨_, m0, by omega⟩, ⟨_, m5, rfl⟩, ⟨_, m6, rfl⟩, r1, r2, r3, r4, a1, a2, a3, a4⟩, hf⟩
/-- the trial row of a new object -/
def jtx (V : jH) (x : Nat) : Prop := ∃ tr s xx yy zz : Nat, jfR V x 4 2 tr ∧ jrw V tr s xx yy zz 120 0 0 (fun _ => 0) (fun _ => 0) (fun _ => 0) (fun _ => 0)
theorem jtx.keep {E : List jKd} {V V' : jH} {x : Nat} (h : jtx V x) (he : jeff E V V') (hn : ∀ k ∈ jRK, k ∉ E) : jtx V' x := by
  obtain ⟨tr, s, xx, yy, zz, h1, h2⟩ := h
  exact ⟨tr, s, xx, yy, zz, h1.mono he.1, h2.keep he hn⟩
/-- the board of a new object: 2 by 2, no hole -/
def jpl0 (V : jH) (pl : Nat) : Prop := ∃ (w h : Int32) (op : Int64), jfI V pl 0 1 w ∧ jfI V pl 0 2 h ∧ jfL V pl 0 3 op ∧ w.toInt = 2 ∧ h.toInt = 2 ∧ ∀ n : Nat, jbt op n = true ↔ ∃ x y : Nat, ((x : Int) < 2 ∧ (y : Int) < 2) ∧ n = 9 + x + 8 * y
theorem jpl0.keep {E : List jKd} {V V' : jH} {pl : Nat} (h : jpl0 V pl) (he : jeff E V V') (hn : (.inr 0 : jKd) ∉ E) : jpl0 V' pl := by
  obtain ⟨w, h, op, q1, q2, q3, q4⟩ := h
  exact ⟨w, h, op, q1.keep he hn, q2.keep he hn, q3.keep he hn, q4⟩
def jpx (V : jH) (x : Nat) : Prop := ∃ (xs : List Value) (pl : Nat), V x = some (.inr (4, xs)) ∧ xs[6]? = some (.ref pl) ∧ jpl0 V pl
theorem jpx.keep {E : List jKd} {V V' : jH} {x : Nat} (h : jpx V x) (he : jeff E V V') (h0 : (.inr 0 : jKd) ∉ E) (h4 : (.inr 4 : jKd) ∉ E) : jpx V' x := by
  obtain ⟨xs, pl, q1, q2, q3⟩ := h
  exact ⟨xs, pl, he.2 _ _ q1 h4, q2, q3.keep he h0⟩
def jmx (V : jH) (m : Nat) : Prop := ∃ (ms : List Value) (rh : Nat), V m = some (.inr (5, ms)) ∧ ms[25]? = some (.ref rh) ∧ V rh = some (.inl (43, 36, .inl (fun _ => 0)))
theorem jbt_tab : ∀ j : Fin 64, ((1 : Int64) <<< ((Int32.ofNat j.val).toInt64 &&& 63)).toBitVec = BitVec.twoPow 64 j.val := by decide +kernel
theorem jbt_shl {k : Int32} (h0 : 0 ≤ k.toInt) (h1 : k.toInt < 64) (n : Nat) : jbt ((1 : Int64) <<< (k.toInt64 &&& 63)) n = decide ((n : Int) = k.toInt) := by
  have h2 : k = Int32.ofNat k.toInt.toNat := by
    apply Int32.toInt_inj.mp
    rw [jn_len (n := k.toInt.toNat) (by omega)]
    omega
  have h3 := jbt_tab ⟨k.toInt.toNat, by omega⟩
  dsimp only at h3
  rw [← h2] at h3
  unfold jbt
  rw [h3, BitVec.getLsbD_twoPow]
  by_cases hn : n = k.toInt.toNat
  · subst hn
    simp only [decide_true, Bool.and_true]
    rw [decide_eq_true (by omega), decide_eq_true (by omega)]
  · rw [decide_eq_false (p := k.toInt.toNat = n) (fun h => hn h.symm), Bool.and_false]
    exact (decide_eq_false (by omega)).symm
theorem jbt_and (x y : Int64) (n : Nat) : jbt (x &&& y) n = (jbt x n && jbt y n) := by
  unfold jbt
  rw [Int64.toBitVec_and, BitVec.getLsbD_and]
theorem jbt_or (x y : Int64) (n : Nat) : jbt (x ||| y) n = (jbt x n || jbt y n) := by
  unfold jbt
  rw [Int64.toBitVec_or, BitVec.getLsbD_or]
theorem jbt_xor (x y : Int64) (n : Nat) : jbt (x ^^^ y) n = (jbt x n ^^ jbt y n) := by
  unfold jbt
  rw [Int64.toBitVec_xor, BitVec.getLsbD_xor]
theorem jbt_zero (n : Nat) : jbt 0 n = false := by
  unfold jbt
  exact BitVec.getLsbD_zero
theorem jbt_ext {x y : Int64} (h : ∀ n, jbt x n = jbt y n) : x = y := by
  apply Int64.toBitVec_inj.mp
  exact BitVec.eq_of_getLsbD_eq (fun i _ => h i)
theorem jbt_one {op b : Int64} {k : Nat} (hb : ∀ n, jbt b n = decide (n = k)) : (op &&& b) = 0 ↔ jbt op k = false := by
  constructor
  · intro h
    have h1 := jbt_and op b k
    rw [h, jbt_zero, hb k, decide_eq_true rfl, Bool.and_true] at h1
    exact h1.symm
  · intro h
    refine jbt_ext (fun n => ?_)
    rw [jbt_and, jbt_zero, hb n]
    by_cases hn : n = k
    · subst hn
      rw [h]
      rfl
    · rw [decide_eq_false hn, Bool.and_false]
theorem jfL.kp {c : Nat} {ks : List Nat} {V V' : jH} {a k : Nat} {y : Int64} (h : jfL V a c k y) (hk : jkc c ks V V') (hm : k ∈ ks) : jfL V' a c k y := by
  obtain ⟨fs, h1, h2⟩ := h
  obtain ⟨fs', h3, h4⟩ := hk a fs h1
  exact ⟨fs', h3, (h4 k hm).trans h2⟩
section JZ
variable {tS : jTS} {M : jM} {d pc : Nat} {ls : List (Option Value)} {st : List Value} {V : jH} {kc ks : Nat} {Q : Option Value → jH → Prop}
theorem Jz_iconst {n : Int} (c : Int) (hd : decode M.2.1 pc = .ok (.iconst n, 1)) (hc : (Int32.ofInt n).toInt = c) (kk : ∀ z : Int32, jEq z.toInt c → J tS M d (pc + 1) ls (.int z :: st) V kc ks Q) : J tS M d pc ls st V kc ks Q := J_iconst hd rfl (kk _ hc)
theorem Jz_bipush {n : Int} (c : Int) (hd : decode M.2.1 pc = .ok (.bipush n, 2)) (hc : ((Int8.ofInt n).toInt32).toInt = c) (kk : ∀ z : Int32, jEq z.toInt c → J tS M d (pc + 2) ls (.int z :: st) V kc ks Q) : J tS M d pc ls st V kc ks Q := J_bipush hd rfl (kk _ hc)
theorem Jz_sipush {n : Int} (c : Int) (hd : decode M.2.1 pc = .ok (.sipush n, 3)) (hc : ((Int16.ofInt n).toInt32).toInt = c) (kk : ∀ z : Int32, jEq z.toInt c → J tS M d (pc + 3) ls (.int z :: st) V kc ks Q) : J tS M d pc ls st V kc ks Q := J_sipush hd rfl (kk _ hc)
theorem Jz_ldc {index : Nat} {v : Int32} (c : Int) (hw : Cond.constant M.1.cls index v ∈ jWG) (hd : decode M.2.1 pc = .ok (.ldc index, 2)) (hc : v.toInt = c) (kk : ∀ z : Int32, jEq z.toInt c → J tS M d (pc + 2) ls (.int z :: st) V kc ks Q) : J tS M d pc ls st V kc ks Q := J_ldc hw hd (kk _ hc)
theorem Jz_iadd {x y : Int32} {A B : Int} (hx : jEq x.toInt A) (hy : jEq y.toInt B) (hd : decode M.2.1 pc = .ok (.iadd, 1)) (h1 : -2147483648 ≤ A + B) (h2 : A + B ≤ 2147483647) (kk : ∀ z : Int32, jEq z.toInt (A + B) → J tS M d (pc + 1) ls (.int z :: st) V kc ks Q) : J tS M d pc ls (.int y :: .int x :: st) V kc ks Q := by
  cases hx
  cases hy
  exact J_iadd hd (kk _ (j_add h1 h2))
theorem Jz_isub {x y : Int32} {A B : Int} (hx : jEq x.toInt A) (hy : jEq y.toInt B) (hd : decode M.2.1 pc = .ok (.isub, 1)) (h1 : -2147483648 ≤ A - B) (h2 : A - B ≤ 2147483647) (kk : ∀ z : Int32, jEq z.toInt (A - B) → J tS M d (pc + 1) ls (.int z :: st) V kc ks Q) : J tS M d pc ls (.int y :: .int x :: st) V kc ks Q := by
  cases hx
  cases hy
  exact J_isub hd (kk _ (j_sub h1 h2))
theorem Jz_imul {x y : Int32} {A B : Int} (hx : jEq x.toInt A) (hy : jEq y.toInt B) (hd : decode M.2.1 pc = .ok (.imul, 1)) (h1 : -2147483648 ≤ A * B) (h2 : A * B ≤ 2147483647) (kk : ∀ z : Int32, jEq z.toInt (A * B) → J tS M d (pc + 1) ls (.int z :: st) V kc ks Q) : J tS M d pc ls (.int y :: .int x :: st) V kc ks Q := by
  cases hx
  cases hy
  exact J_imul hd (kk _ (j_mul h1 h2))
theorem Jz_iaddw {x y : Int32} (hd : decode M.2.1 pc = .ok (.iadd, 1)) (kk : ∀ z : Int32, J tS M d (pc + 1) ls (.int z :: st) V kc ks Q) : J tS M d pc ls (.int y :: .int x :: st) V kc ks Q := J_iadd hd (kk _)
theorem Jz_isubw {x y : Int32} (hd : decode M.2.1 pc = .ok (.isub, 1)) (kk : ∀ z : Int32, J tS M d (pc + 1) ls (.int z :: st) V kc ks Q) : J tS M d pc ls (.int y :: .int x :: st) V kc ks Q := J_isub hd (kk _)
theorem Jz_imulw {x y : Int32} (hd : decode M.2.1 pc = .ok (.imul, 1)) (kk : ∀ z : Int32, J tS M d (pc + 1) ls (.int z :: st) V kc ks Q) : J tS M d pc ls (.int y :: .int x :: st) V kc ks Q := J_imul hd (kk _)
theorem Jz_iandw {x y : Int32} (hd : decode M.2.1 pc = .ok (.iand, 1)) (kk : ∀ z : Int32, J tS M d (pc + 1) ls (.int z :: st) V kc ks Q) : J tS M d pc ls (.int y :: .int x :: st) V kc ks Q := J_iand hd (kk _)
theorem Jz_iorw {x y : Int32} (hd : decode M.2.1 pc = .ok (.ior, 1)) (kk : ∀ z : Int32, J tS M d (pc + 1) ls (.int z :: st) V kc ks Q) : J tS M d pc ls (.int y :: .int x :: st) V kc ks Q := J_ior hd (kk _)
theorem Jz_ixorw {x y : Int32} (hd : decode M.2.1 pc = .ok (.ixor, 1)) (kk : ∀ z : Int32, J tS M d (pc + 1) ls (.int z :: st) V kc ks Q) : J tS M d pc ls (.int y :: .int x :: st) V kc ks Q := J_ixor hd (kk _)
theorem Jz_ishlw {x y : Int32} (hd : decode M.2.1 pc = .ok (.ishl, 1)) (kk : ∀ z : Int32, J tS M d (pc + 1) ls (.int z :: st) V kc ks Q) : J tS M d pc ls (.int y :: .int x :: st) V kc ks Q := J_ishl hd (kk _)
theorem Jz_ishrw {x y : Int32} (hd : decode M.2.1 pc = .ok (.ishr, 1)) (kk : ∀ z : Int32, J tS M d (pc + 1) ls (.int z :: st) V kc ks Q) : J tS M d pc ls (.int y :: .int x :: st) V kc ks Q := J_ishr hd (kk _)
theorem Jz_iushrw {x y : Int32} (hd : decode M.2.1 pc = .ok (.iushr, 1)) (kk : ∀ z : Int32, J tS M d (pc + 1) ls (.int z :: st) V kc ks Q) : J tS M d pc ls (.int y :: .int x :: st) V kc ks Q := J_iushr hd rfl (kk _)
theorem Jz_imulB {x y : Int32} {A B : Int} (C : Int) (hx : jEq x.toInt A) (hy : jEq y.toInt B) (hd : decode M.2.1 pc = .ok (.imul, 1)) (h0 : 0 ≤ A) (h1 : 0 ≤ B) (hB : B ≤ C) (h2 : C * A ≤ 2147483647) (kk : ∀ z : Int32, 0 ≤ z.toInt → z.toInt ≤ C * A → J tS M d (pc + 1) ls (.int z :: st) V kc ks Q) : J tS M d pc ls (.int y :: .int x :: st) V kc ks Q := by
  cases hx
  cases hy
  have h3 : x.toInt * y.toInt ≤ C * x.toInt := by rw [Int.mul_comm C]; exact Int.mul_le_mul_of_nonneg_left hB h0
  have h4 : 0 ≤ x.toInt * y.toInt := Int.mul_nonneg h0 h1
  have h5 := j_mul (x := x) (y := y) (by omega) (by omega)
  exact J_imul hd (kk _ (by omega) (by omega))
theorem Jz_imulM {x y : Int32} {A B : Int} (C : Int) (hx : jEq x.toInt A) (hy : jEq y.toInt B) (hd : decode M.2.1 pc = .ok (.imul, 1)) (h0 : 0 ≤ A) (h1 : 1 ≤ B) (hB : B ≤ C) (h2 : C * A ≤ 2147483647) (kk : ∀ z : Int32, A ≤ z.toInt → z.toInt ≤ C * A → J tS M d (pc + 1) ls (.int z :: st) V kc ks Q) : J tS M d pc ls (.int y :: .int x :: st) V kc ks Q := by
  cases hx
  cases hy
  have h3 : x.toInt * y.toInt ≤ C * x.toInt := by rw [Int.mul_comm C]; exact Int.mul_le_mul_of_nonneg_left hB h0
  have h4 : x.toInt * 1 ≤ x.toInt * y.toInt := Int.mul_le_mul_of_nonneg_left h1 h0
  have h5 := j_mul (x := x) (y := y) (by omega) (by omega)
  exact J_imul hd (kk _ (by omega) (by omega))
theorem Jz_idivw {x y : Int32} {B : Int} (hy : jEq y.toInt B) (hd : decode M.2.1 pc = .ok (.idiv, 1)) (hn : B ≠ 0) (kk : ∀ z : Int32, J tS M d (pc + 1) ls (.int z :: st) V kc ks Q) : J tS M d pc ls (.int y :: .int x :: st) V kc ks Q := by
  cases hy
  exact J_idiv hd (fun h => hn (jI_zero.mp h)) (kk _)
theorem Jz_iremw {x y : Int32} {B : Int} (hy : jEq y.toInt B) (hd : decode M.2.1 pc = .ok (.irem, 1)) (hn : B ≠ 0) (kk : ∀ z : Int32, J tS M d (pc + 1) ls (.int z :: st) V kc ks Q) : J tS M d pc ls (.int y :: .int x :: st) V kc ks Q := by
  cases hy
  exact J_irem hd (fun h => hn (jI_zero.mp h)) (kk _)
theorem Jz_idiv {x y : Int32} {A B : Int} (hx : jEq x.toInt A) (hy : jEq y.toInt B) (hd : decode M.2.1 pc = .ok (.idiv, 1)) (h1 : 0 < B) (h0 : 0 ≤ A) (kk : ∀ z : Int32, 0 ≤ z.toInt → z.toInt ≤ A → J tS M d (pc + 1) ls (.int z :: st) V kc ks Q) : J tS M d pc ls (.int y :: .int x :: st) V kc ks Q := by
  cases hx
  cases hy
  have h2 := jz_div h0 h1
  have h3 : x.toInt / y.toInt ≤ x.toInt := Int.ediv_le_self _ h0
  have h4 : 0 ≤ x.toInt / y.toInt := Int.ediv_nonneg h0 (by omega)
  exact J_idiv hd (fun h => by rw [jI_zero] at h; omega) (kk _ (by omega) (by omega))
theorem Jz_idivC {x y : Int32} {A B : Int} (hx : jEq x.toInt A) (hy : jEq y.toInt B) (hd : decode M.2.1 pc = .ok (.idiv, 1)) (h1 : 0 < B) (h0 : 0 ≤ A) (kk : ∀ z : Int32, jEq z.toInt (A / B) → J tS M d (pc + 1) ls (.int z :: st) V kc ks Q) : J tS M d pc ls (.int y :: .int x :: st) V kc ks Q := by
  cases hx
  cases hy
  exact J_idiv hd (fun h => by rw [jI_zero] at h; omega) (kk _ (jz_div h0 h1))
theorem Jz_irem {x y : Int32} {A B : Int} (hx : jEq x.toInt A) (hy : jEq y.toInt B) (hd : decode M.2.1 pc = .ok (.irem, 1)) (h1 : 0 < B) (h0 : 0 ≤ A) (kk : ∀ z : Int32, 0 ≤ z.toInt → z.toInt < B → J tS M d (pc + 1) ls (.int z :: st) V kc ks Q) : J tS M d pc ls (.int y :: .int x :: st) V kc ks Q := by
  cases hx
  cases hy
  refine J_irem hd (fun h => by rw [jI_zero] at h; omega) (kk _ ?_ ?_)
  · rw [jz_rem h0 h1]; exact Int.emod_nonneg _ (by omega)
  · rw [jz_rem h0 h1]; exact Int.emod_lt_of_pos _ h1
theorem Jz_inegw {x : Int32} (hd : decode M.2.1 pc = .ok (.ineg, 1)) (kk : ∀ z : Int32, J tS M d (pc + 1) ls (.int z :: st) V kc ks Q) : J tS M d pc ls (.int x :: st) V kc ks Q := J_ineg hd (kk _)
theorem Jz_i2bw {x : Int32} (hd : decode M.2.1 pc = .ok (.i2b, 1)) (kk : ∀ z : Int32, J tS M d (pc + 1) ls (.int z :: st) V kc ks Q) : J tS M d pc ls (.int x :: st) V kc ks Q := J_i2b hd rfl (kk _)
theorem Jz_l2iw {x : Int64} (hd : decode M.2.1 pc = .ok (.l2i, 1)) (kk : ∀ z : Int32, J tS M d (pc + 1) ls (.int z :: st) V kc ks Q) : J tS M d pc ls (.long x :: st) V kc ks Q := J_l2i hd rfl (kk _)
theorem Jz_lcmp {x y : Int64} (hd : decode M.2.1 pc = .ok (.lcmp, 1)) (kk : ∀ z : Int32, jLc z x y → J tS M d (pc + 1) ls (.int z :: st) V kc ks Q) : J tS M d pc ls (.long y :: .long x :: st) V kc ks Q := J_lcmp hd (kk _ jLc_of)
theorem Jz_lcmpw {x y : Int64} (hd : decode M.2.1 pc = .ok (.lcmp, 1)) (kk : ∀ z : Int32, J tS M d (pc + 1) ls (.int z :: st) V kc ks Q) : J tS M d pc ls (.long y :: .long x :: st) V kc ks Q := J_lcmp hd (kk _)
theorem Jz_iinc (c : Int) {i : Nat} {n : Int} {x : Int32} (hd : decode M.2.1 pc = .ok (.iinc i n, 3)) (hi : ls[i]? = some (some (.int x))) (hk : jlk ls i = true) (hm : i < M.2.2.1) {A : Int} (hx : jEq x.toInt A) (hc : (Int32.ofInt n).toInt = c) (h1 : -2147483648 ≤ A + c) (h2 : A + c ≤ 2147483647) (kk : ∀ z : Int32, jEq z.toInt (A + c) → J tS M d (pc + 3) (ls.set i (some (.int z))) st V kc ks Q) : J tS M d pc ls st V kc ks Q := by
  cases hx
  exact J_iinc hd hi rfl hk hm (kk _ (by subst hc; exact j_add h1 h2))
theorem Jz_iincw {i : Nat} {n : Int} {x : Int32} (hd : decode M.2.1 pc = .ok (.iinc i n, 3)) (hi : ls[i]? = some (some (.int x))) (hk : jlk ls i = true) (hm : i < M.2.2.1) (kk : ∀ z : Int32, J tS M d (pc + 3) (ls.set i (some (.int z))) st V kc ks Q) : J tS M d pc ls st V kc ks Q := J_iinc hd hi rfl hk hm (kk _)
theorem Jz_if_eq {x : Int32} {off : Int} {tgt : Nat} {A : Int} (hx : jEq x.toInt A) (hd : decode M.2.1 pc = .ok (.ifCond .eq off, 3)) (ht : (pc : Int) + off = (tgt : Int)) (kt : A = 0 → J tS M d tgt ls st V kc ks Q) (kf : ¬ A = 0 → J tS M d (pc + 3) ls st V kc ks Q) : J tS M d pc ls (.int x :: st) V kc ks Q := by
  cases hx
  exact J_if_eq hd ht (fun h => kt (jI_zero.mp h)) (fun h => kf (fun q => h (jI_zero.mpr q)))
theorem Jz_icmp_eq {x y : Int32} {off : Int} {tgt : Nat} {A B : Int} (hx : jEq x.toInt A) (hy : jEq y.toInt B) (hd : decode M.2.1 pc = .ok (.if_icmp .eq off, 3)) (ht : (pc : Int) + off = (tgt : Int)) (kt : A = B → J tS M d tgt ls st V kc ks Q) (kf : ¬ A = B → J tS M d (pc + 3) ls st V kc ks Q) : J tS M d pc ls (.int y :: .int x :: st) V kc ks Q := by
  cases hx
  cases hy
  exact J_icmp_eq hd ht (fun h => kt (jI_inj.mpr h)) (fun h => kf (fun q => h (jI_inj.mp q)))
theorem Jz_if_ne {x : Int32} {off : Int} {tgt : Nat} {A : Int} (hx : jEq x.toInt A) (hd : decode M.2.1 pc = .ok (.ifCond .ne off, 3)) (ht : (pc : Int) + off = (tgt : Int)) (kt : ¬ A = 0 → J tS M d tgt ls st V kc ks Q) (kf : A = 0 → J tS M d (pc + 3) ls st V kc ks Q) : J tS M d pc ls (.int x :: st) V kc ks Q := by
  cases hx
  exact J_if_ne hd ht (fun h => kt (fun q => h (jI_zero.mpr q))) (fun h => kf (jI_zero.mp h))
theorem Jz_icmp_ne {x y : Int32} {off : Int} {tgt : Nat} {A B : Int} (hx : jEq x.toInt A) (hy : jEq y.toInt B) (hd : decode M.2.1 pc = .ok (.if_icmp .ne off, 3)) (ht : (pc : Int) + off = (tgt : Int)) (kt : ¬ A = B → J tS M d tgt ls st V kc ks Q) (kf : A = B → J tS M d (pc + 3) ls st V kc ks Q) : J tS M d pc ls (.int y :: .int x :: st) V kc ks Q := by
  cases hx
  cases hy
  exact J_icmp_ne hd ht (fun h => kt (fun q => h (jI_inj.mp q))) (fun h => kf (jI_inj.mpr h))
theorem Jz_if_lt {x : Int32} {off : Int} {tgt : Nat} {A : Int} (hx : jEq x.toInt A) (hd : decode M.2.1 pc = .ok (.ifCond .lt off, 3)) (ht : (pc : Int) + off = (tgt : Int)) (kt : A < 0 → J tS M d tgt ls st V kc ks Q) (kf : ¬ A < 0 → J tS M d (pc + 3) ls st V kc ks Q) : J tS M d pc ls (.int x :: st) V kc ks Q := by
  cases hx
  exact J_if_lt hd ht (fun h => kt (by have q := jlt.mp h; rw [Int32.toInt_zero] at q; exact q)) (fun h => kf (fun q => h (jlt.mpr (by rw [Int32.toInt_zero]; exact q))))
theorem Jz_icmp_lt {x y : Int32} {off : Int} {tgt : Nat} {A B : Int} (hx : jEq x.toInt A) (hy : jEq y.toInt B) (hd : decode M.2.1 pc = .ok (.if_icmp .lt off, 3)) (ht : (pc : Int) + off = (tgt : Int)) (kt : A < B → J tS M d tgt ls st V kc ks Q) (kf : ¬ A < B → J tS M d (pc + 3) ls st V kc ks Q) : J tS M d pc ls (.int y :: .int x :: st) V kc ks Q := by
  cases hx
  cases hy
  exact J_icmp_lt hd ht (fun h => kt (jlt.mp h)) (fun h => kf (fun q => h (jlt.mpr q)))
theorem Jz_if_ge {x : Int32} {off : Int} {tgt : Nat} {A : Int} (hx : jEq x.toInt A) (hd : decode M.2.1 pc = .ok (.ifCond .ge off, 3)) (ht : (pc : Int) + off = (tgt : Int)) (kt : 0 ≤ A → J tS M d tgt ls st V kc ks Q) (kf : ¬ 0 ≤ A → J tS M d (pc + 3) ls st V kc ks Q) : J tS M d pc ls (.int x :: st) V kc ks Q := by
  cases hx
  exact J_if_ge hd ht (fun h => kt (by have q := jle.mp h; rw [Int32.toInt_zero] at q; exact q)) (fun h => kf (fun q => h (jle.mpr (by rw [Int32.toInt_zero]; exact q))))
theorem Jz_icmp_ge {x y : Int32} {off : Int} {tgt : Nat} {A B : Int} (hx : jEq x.toInt A) (hy : jEq y.toInt B) (hd : decode M.2.1 pc = .ok (.if_icmp .ge off, 3)) (ht : (pc : Int) + off = (tgt : Int)) (kt : B ≤ A → J tS M d tgt ls st V kc ks Q) (kf : ¬ B ≤ A → J tS M d (pc + 3) ls st V kc ks Q) : J tS M d pc ls (.int y :: .int x :: st) V kc ks Q := by
  cases hx
  cases hy
  exact J_icmp_ge hd ht (fun h => kt (jle.mp h)) (fun h => kf (fun q => h (jle.mpr q)))
theorem Jz_if_gt {x : Int32} {off : Int} {tgt : Nat} {A : Int} (hx : jEq x.toInt A) (hd : decode M.2.1 pc = .ok (.ifCond .gt off, 3)) (ht : (pc : Int) + off = (tgt : Int)) (kt : 0 < A → J tS M d tgt ls st V kc ks Q) (kf : ¬ 0 < A → J tS M d (pc + 3) ls st V kc ks Q) : J tS M d pc ls (.int x :: st) V kc ks Q := by
  cases hx
  exact J_if_gt hd ht (fun h => kt (by have q := jlt.mp h; rw [Int32.toInt_zero] at q; exact q)) (fun h => kf (fun q => h (jlt.mpr (by rw [Int32.toInt_zero]; exact q))))
theorem Jz_icmp_gt {x y : Int32} {off : Int} {tgt : Nat} {A B : Int} (hx : jEq x.toInt A) (hy : jEq y.toInt B) (hd : decode M.2.1 pc = .ok (.if_icmp .gt off, 3)) (ht : (pc : Int) + off = (tgt : Int)) (kt : B < A → J tS M d tgt ls st V kc ks Q) (kf : ¬ B < A → J tS M d (pc + 3) ls st V kc ks Q) : J tS M d pc ls (.int y :: .int x :: st) V kc ks Q := by
  cases hx
  cases hy
  exact J_icmp_gt hd ht (fun h => kt (jlt.mp h)) (fun h => kf (fun q => h (jlt.mpr q)))
theorem Jz_if_le {x : Int32} {off : Int} {tgt : Nat} {A : Int} (hx : jEq x.toInt A) (hd : decode M.2.1 pc = .ok (.ifCond .le off, 3)) (ht : (pc : Int) + off = (tgt : Int)) (kt : A ≤ 0 → J tS M d tgt ls st V kc ks Q) (kf : ¬ A ≤ 0 → J tS M d (pc + 3) ls st V kc ks Q) : J tS M d pc ls (.int x :: st) V kc ks Q := by
  cases hx
  exact J_if_le hd ht (fun h => kt (by have q := jle.mp h; rw [Int32.toInt_zero] at q; exact q)) (fun h => kf (fun q => h (jle.mpr (by rw [Int32.toInt_zero]; exact q))))
theorem Jz_icmp_le {x y : Int32} {off : Int} {tgt : Nat} {A B : Int} (hx : jEq x.toInt A) (hy : jEq y.toInt B) (hd : decode M.2.1 pc = .ok (.if_icmp .le off, 3)) (ht : (pc : Int) + off = (tgt : Int)) (kt : A ≤ B → J tS M d tgt ls st V kc ks Q) (kf : ¬ A ≤ B → J tS M d (pc + 3) ls st V kc ks Q) : J tS M d pc ls (.int y :: .int x :: st) V kc ks Q := by
  cases hx
  cases hy
  exact J_icmp_le hd ht (fun h => kt (jle.mp h)) (fun h => kf (fun q => h (jle.mpr q)))
theorem Jz_iald {t a n : Nat} {f : Nat → Int32} {i : Int32} {r : Int × Int} {A : Int} (hx : jEq i.toInt A) (hd : decode M.2.1 pc = .ok (.iaload, 1)) (hV : V a = some (.inl (t, n, .inl f))) (ht : jT[t]? = some .int) (hv : ∀ j, j < n → r.1 ≤ (f j).toInt ∧ (f j).toInt ≤ r.2) (h1 : 0 ≤ A) (h2 : A < (n : Int)) (kk : ∀ x : Int32, f A.toNat = x → r.1 ≤ x.toInt → x.toInt ≤ r.2 → J tS M d (pc + 1) ls (.int x :: st) V kc ks Q) : J tS M d pc ls (.int i :: .ref a :: st) V kc ks Q := by
  cases hx
  have hin : vp_in i n := vp_in_n h1 h2
  have h := hv i.toNatClampNeg (Nat.not_le.mp fun q => hin (Or.inr q))
  exact J_iald hd hV ht hin (kk _ rfl h.1 h.2)
theorem Jz_ialdr {t a n : Nat} {f : Nat → Int32} {i : Int32} {r : Int × Int} {A : Int} (hx : jEq i.toInt A) (hd : decode M.2.1 pc = .ok (.iaload, 1)) (hV : V a = some (.inl (t, n, .inl f))) (ht : jT[t]? = some .int) (hv : ∀ j, j < n → r.1 ≤ (f j).toInt ∧ (f j).toInt ≤ r.2) (h1 : 0 ≤ A) (h2 : A < (n : Int)) (kk : ∀ x : Int32, r.1 ≤ x.toInt → x.toInt ≤ r.2 → J tS M d (pc + 1) ls (.int x :: st) V kc ks Q) : J tS M d pc ls (.int i :: .ref a :: st) V kc ks Q := Jz_iald hx hd hV ht hv h1 h2 (fun x _ h3 h4 => kk x h3 h4)
theorem Jz_ialdw {t a n : Nat} {f : Nat → Int32} {i : Int32} {A : Int} (hx : jEq i.toInt A) (hd : decode M.2.1 pc = .ok (.iaload, 1)) (hV : V a = some (.inl (t, n, .inl f))) (ht : jT[t]? = some .int) (h1 : 0 ≤ A) (h2 : A < (n : Int)) (kk : ∀ x : Int32, J tS M d (pc + 1) ls (.int x :: st) V kc ks Q) : J tS M d pc ls (.int i :: .ref a :: st) V kc ks Q := by
  cases hx
  exact J_iald hd hV ht (vp_in_n h1 h2) (kk _)
theorem Jz_zald {t a n : Nat} {f : Nat → Int32} {i : Int32} {r : Int × Int} {A : Int} (hx : jEq i.toInt A) (hd : decode M.2.1 pc = .ok (.baload, 1)) (hV : V a = some (.inl (t, n, .inl f))) (ht : jT[t]? = some .boolean) (hv : ∀ j, j < n → r.1 ≤ (f j).toInt ∧ (f j).toInt ≤ r.2) (h1 : 0 ≤ A) (h2 : A < (n : Int)) (kk : ∀ x : Int32, f A.toNat = x → r.1 ≤ x.toInt → x.toInt ≤ r.2 → J tS M d (pc + 1) ls (.int x :: st) V kc ks Q) : J tS M d pc ls (.int i :: .ref a :: st) V kc ks Q := by
  cases hx
  have hin : vp_in i n := vp_in_n h1 h2
  have h := hv i.toNatClampNeg (Nat.not_le.mp fun q => hin (Or.inr q))
  exact J_zald hd hV ht hin (kk _ rfl h.1 h.2)
theorem Jz_zaldr {t a n : Nat} {f : Nat → Int32} {i : Int32} {r : Int × Int} {A : Int} (hx : jEq i.toInt A) (hd : decode M.2.1 pc = .ok (.baload, 1)) (hV : V a = some (.inl (t, n, .inl f))) (ht : jT[t]? = some .boolean) (hv : ∀ j, j < n → r.1 ≤ (f j).toInt ∧ (f j).toInt ≤ r.2) (h1 : 0 ≤ A) (h2 : A < (n : Int)) (kk : ∀ x : Int32, r.1 ≤ x.toInt → x.toInt ≤ r.2 → J tS M d (pc + 1) ls (.int x :: st) V kc ks Q) : J tS M d pc ls (.int i :: .ref a :: st) V kc ks Q := Jz_zald hx hd hV ht hv h1 h2 (fun x _ h3 h4 => kk x h3 h4)
theorem Jz_zaldw {t a n : Nat} {f : Nat → Int32} {i : Int32} {A : Int} (hx : jEq i.toInt A) (hd : decode M.2.1 pc = .ok (.baload, 1)) (hV : V a = some (.inl (t, n, .inl f))) (ht : jT[t]? = some .boolean) (h1 : 0 ≤ A) (h2 : A < (n : Int)) (kk : ∀ x : Int32, J tS M d (pc + 1) ls (.int x :: st) V kc ks Q) : J tS M d pc ls (.int i :: .ref a :: st) V kc ks Q := by
  cases hx
  exact J_zald hd hV ht (vp_in_n h1 h2) (kk _)
theorem Jz_bald {t a n : Nat} {f : Nat → Int32} {i : Int32} {r : Int × Int} {A : Int} (hx : jEq i.toInt A) (hd : decode M.2.1 pc = .ok (.baload, 1)) (hV : V a = some (.inl (t, n, .inl f))) (ht : jT[t]? = some .byte) (hv : ∀ j, j < n → r.1 ≤ (f j).toInt ∧ (f j).toInt ≤ r.2) (h1 : 0 ≤ A) (h2 : A < (n : Int)) (kk : ∀ x : Int32, f A.toNat = x → r.1 ≤ x.toInt → x.toInt ≤ r.2 → J tS M d (pc + 1) ls (.int x :: st) V kc ks Q) : J tS M d pc ls (.int i :: .ref a :: st) V kc ks Q := by
  cases hx
  have hin : vp_in i n := vp_in_n h1 h2
  have h := hv i.toNatClampNeg (Nat.not_le.mp fun q => hin (Or.inr q))
  exact J_bald hd hV ht hin (kk _ rfl h.1 h.2)
theorem Jz_baldr {t a n : Nat} {f : Nat → Int32} {i : Int32} {r : Int × Int} {A : Int} (hx : jEq i.toInt A) (hd : decode M.2.1 pc = .ok (.baload, 1)) (hV : V a = some (.inl (t, n, .inl f))) (ht : jT[t]? = some .byte) (hv : ∀ j, j < n → r.1 ≤ (f j).toInt ∧ (f j).toInt ≤ r.2) (h1 : 0 ≤ A) (h2 : A < (n : Int)) (kk : ∀ x : Int32, r.1 ≤ x.toInt → x.toInt ≤ r.2 → J tS M d (pc + 1) ls (.int x :: st) V kc ks Q) : J tS M d pc ls (.int i :: .ref a :: st) V kc ks Q := Jz_bald hx hd hV ht hv h1 h2 (fun x _ h3 h4 => kk x h3 h4)
theorem Jz_baldw {t a n : Nat} {f : Nat → Int32} {i : Int32} {A : Int} (hx : jEq i.toInt A) (hd : decode M.2.1 pc = .ok (.baload, 1)) (hV : V a = some (.inl (t, n, .inl f))) (ht : jT[t]? = some .byte) (h1 : 0 ≤ A) (h2 : A < (n : Int)) (kk : ∀ x : Int32, J tS M d (pc + 1) ls (.int x :: st) V kc ks Q) : J tS M d pc ls (.int i :: .ref a :: st) V kc ks Q := by
  cases hx
  exact J_bald hd hV ht (vp_in_n h1 h2) (kk _)
theorem Jz_lald {t a n : Nat} {f : Nat → Int64} {i : Int32} {A : Int} (hx : jEq i.toInt A) (hd : decode M.2.1 pc = .ok (.laload, 1)) (hV : V a = some (.inl (t, n, .inr (.inl f)))) (ht : jT[t]? = some .long) (h1 : 0 ≤ A) (h2 : A < (n : Int)) (kk : ∀ x : Int64, J tS M d (pc + 1) ls (.long x :: st) V kc ks Q) : J tS M d pc ls (.int i :: .ref a :: st) V kc ks Q := by
  cases hx
  exact J_lald hd hV ht (vp_in_n h1 h2) (kk _)
theorem Jz_last {t a n : Nat} {f : Nat → Int64} {i : Int32} {x : Int64} {p : Nat → Prop} {A : Int} (hx : jEq i.toInt A) (hW : WTx p V) (hp : ¬ p a) (hd : decode M.2.1 pc = .ok (.lastore, 1)) (hV : V a = some (.inl (t, n, .inr (.inl f)))) (ht : jT[t]? = some .long) (hc : jAc t = .inr none) (h1 : 0 ≤ A) (h2 : A < (n : Int)) (kk : ∀ V2 : jH, WTx p V2 → jeff [.inl t] V V2 → J tS M d (pc + 1) ls st V2 kc ks Q) : J tS M d pc ls (.long x :: .int i :: .ref a :: st) V kc ks Q := by
  cases hx
  exact Jw_last hW hp hd hV ht hc (vp_in_n h1 h2) (fun V2 h3 h4 _ => kk V2 h3 h4)
theorem Jz_iast {t a n : Nat} {f : Nat → Int32} {i x : Int32} {r : Int × Int} {p : Nat → Prop} {A : Int} (hx : jEq i.toInt A) {X : Int} (hz : jEq x.toInt X) (hW : WTx p V) (hp : ¬ p a) (hd : decode M.2.1 pc = .ok (.iastore, 1)) (hV : V a = some (.inl (t, n, .inl f))) (ht : jT[t]? = some .int) (hc : jAc t = .inl r) (hi1 : 0 ≤ A) (hi2 : A < (n : Int)) (h1 : r.1 ≤ X) (h2 : X ≤ r.2) (kk : ∀ (V' : jH) (f' : Nat → Int32), WTx p V' → jeff [.inl t] V V' → V' a = some (.inl (t, n, .inl f')) → f' A.toNat = x → (∀ k, k ≠ A.toNat → f' k = f k) → J tS M d (pc + 1) ls st V' kc ks Q) : J tS M d pc ls (.int x :: .int i :: .ref a :: st) V kc ks Q := by
  cases hx
  cases hz
  have h0 := hW a _ hp hV
  refine J_iast hd hV ht (vp_in_n hi1 hi2) (kk _ _ (hW.put hV jrel.arr (fun _ => ⟨h0.1, h0.2.1, ?_⟩)) (jeff.put hV jrel.arr List.mem_cons_self) jup_self (by exact pk_us) (fun k hk => pk_un hk))
  have h3 := h0.2.2
  dsimp only at h3 ⊢
  rw [hc] at h3 ⊢
  obtain ⟨g, hg, h4⟩ := h3
  cases hg
  refine ⟨_, rfl, fun j hj => ?_⟩
  by_cases hq : j = i.toNatClampNeg
  · subst hq
    rw [pk_us]
    exact ⟨h1, h2⟩
  · rw [pk_un hq]
    exact h4 j hj
theorem Jz_iastw {t a n : Nat} {f : Nat → Int32} {i x : Int32} {r : Int × Int} {p : Nat → Prop} {A : Int} (hx : jEq i.toInt A) {X : Int} (hz : jEq x.toInt X) (hW : WTx p V) (hp : ¬ p a) (hd : decode M.2.1 pc = .ok (.iastore, 1)) (hV : V a = some (.inl (t, n, .inl f))) (ht : jT[t]? = some .int) (hc : jAc t = .inl r) (hi1 : 0 ≤ A) (hi2 : A < (n : Int)) (h1 : r.1 ≤ X) (h2 : X ≤ r.2) (kk : ∀ V' : jH, WTx p V' → jeff [.inl t] V V' → J tS M d (pc + 1) ls st V' kc ks Q) : J tS M d pc ls (.int x :: .int i :: .ref a :: st) V kc ks Q := Jz_iast hx hz hW hp hd hV ht hc hi1 hi2 h1 h2 (fun V' _ h3 h4 _ _ _ => kk V' h3 h4)
theorem Jz_zast {t a n : Nat} {f : Nat → Int32} {i x : Int32} {r : Int × Int} {p : Nat → Prop} {A : Int} (hx : jEq i.toInt A) {X : Int} (hz : jEq x.toInt X) (hW : WTx p V) (hp : ¬ p a) (hd : decode M.2.1 pc = .ok (.bastore, 1)) (hV : V a = some (.inl (t, n, .inl f))) (ht : jT[t]? = some .boolean) (hc : jAc t = .inl r) (hi1 : 0 ≤ A) (hi2 : A < (n : Int)) (h1 : r.1 ≤ X) (h2 : X ≤ r.2) (hnr : ∀ q : Int32, q.toInt = X → vp_nar .boolean q = q) (kk : ∀ (V' : jH) (f' : Nat → Int32), WTx p V' → jeff [.inl t] V V' → V' a = some (.inl (t, n, .inl f')) → f' A.toNat = x → (∀ k, k ≠ A.toNat → f' k = f k) → J tS M d (pc + 1) ls st V' kc ks Q) : J tS M d pc ls (.int x :: .int i :: .ref a :: st) V kc ks Q := by
  cases hx
  cases hz
  have h0 := hW a _ hp hV
  refine J_zast hd hV ht (vp_in_n hi1 hi2) (kk _ _ (hW.put hV jrel.arr (fun _ => ⟨h0.1, h0.2.1, ?_⟩)) (jeff.put hV jrel.arr List.mem_cons_self) jup_self (by rw [hnr x rfl]; exact pk_us) (fun k hk => pk_un hk))
  have h3 := h0.2.2
  dsimp only at h3 ⊢
  rw [hc] at h3 ⊢
  obtain ⟨g, hg, h4⟩ := h3
  cases hg
  refine ⟨_, rfl, fun j hj => ?_⟩
  by_cases hq : j = i.toNatClampNeg
  · subst hq
    rw [hnr x rfl]; rw [pk_us]
    exact ⟨h1, h2⟩
  · rw [pk_un hq]
    exact h4 j hj
theorem Jz_zastw {t a n : Nat} {f : Nat → Int32} {i x : Int32} {r : Int × Int} {p : Nat → Prop} {A : Int} (hx : jEq i.toInt A) {X : Int} (hz : jEq x.toInt X) (hW : WTx p V) (hp : ¬ p a) (hd : decode M.2.1 pc = .ok (.bastore, 1)) (hV : V a = some (.inl (t, n, .inl f))) (ht : jT[t]? = some .boolean) (hc : jAc t = .inl r) (hi1 : 0 ≤ A) (hi2 : A < (n : Int)) (h1 : r.1 ≤ X) (h2 : X ≤ r.2) (hnr : ∀ q : Int32, q.toInt = X → vp_nar .boolean q = q) (kk : ∀ V' : jH, WTx p V' → jeff [.inl t] V V' → J tS M d (pc + 1) ls st V' kc ks Q) : J tS M d pc ls (.int x :: .int i :: .ref a :: st) V kc ks Q := Jz_zast hx hz hW hp hd hV ht hc hi1 hi2 h1 h2 hnr (fun V' _ h3 h4 _ _ _ => kk V' h3 h4)
theorem Jz_bast {t a n : Nat} {f : Nat → Int32} {i x : Int32} {r : Int × Int} {p : Nat → Prop} {A : Int} (hx : jEq i.toInt A) {X : Int} (hz : jEq x.toInt X) (hW : WTx p V) (hp : ¬ p a) (hd : decode M.2.1 pc = .ok (.bastore, 1)) (hV : V a = some (.inl (t, n, .inl f))) (ht : jT[t]? = some .byte) (hc : jAc t = .inl r) (hi1 : 0 ≤ A) (hi2 : A < (n : Int)) (h1 : r.1 ≤ X) (h2 : X ≤ r.2) (hnr : ∀ q : Int32, q.toInt = X → vp_nar .byte q = q) (kk : ∀ (V' : jH) (f' : Nat → Int32), WTx p V' → jeff [.inl t] V V' → V' a = some (.inl (t, n, .inl f')) → f' A.toNat = x → (∀ k, k ≠ A.toNat → f' k = f k) → J tS M d (pc + 1) ls st V' kc ks Q) : J tS M d pc ls (.int x :: .int i :: .ref a :: st) V kc ks Q := by
  cases hx
  cases hz
  have h0 := hW a _ hp hV
  refine J_bast hd hV ht (vp_in_n hi1 hi2) (kk _ _ (hW.put hV jrel.arr (fun _ => ⟨h0.1, h0.2.1, ?_⟩)) (jeff.put hV jrel.arr List.mem_cons_self) jup_self (by rw [hnr x rfl]; exact pk_us) (fun k hk => pk_un hk))
  have h3 := h0.2.2
  dsimp only at h3 ⊢
  rw [hc] at h3 ⊢
  obtain ⟨g, hg, h4⟩ := h3
  cases hg
  refine ⟨_, rfl, fun j hj => ?_⟩
  by_cases hq : j = i.toNatClampNeg
  · subst hq
    rw [hnr x rfl]; rw [pk_us]
    exact ⟨h1, h2⟩
  · rw [pk_un hq]
    exact h4 j hj
theorem Jz_bastw {t a n : Nat} {f : Nat → Int32} {i x : Int32} {r : Int × Int} {p : Nat → Prop} {A : Int} (hx : jEq i.toInt A) {X : Int} (hz : jEq x.toInt X) (hW : WTx p V) (hp : ¬ p a) (hd : decode M.2.1 pc = .ok (.bastore, 1)) (hV : V a = some (.inl (t, n, .inl f))) (ht : jT[t]? = some .byte) (hc : jAc t = .inl r) (hi1 : 0 ≤ A) (hi2 : A < (n : Int)) (h1 : r.1 ≤ X) (h2 : X ≤ r.2) (hnr : ∀ q : Int32, q.toInt = X → vp_nar .byte q = q) (kk : ∀ V' : jH, WTx p V' → jeff [.inl t] V V' → J tS M d (pc + 1) ls st V' kc ks Q) : J tS M d pc ls (.int x :: .int i :: .ref a :: st) V kc ks Q := Jz_bast hx hz hW hp hd hV ht hc hi1 hi2 h1 h2 hnr (fun V' _ h3 h4 _ _ _ => kk V' h3 h4)
theorem Jz_iastB {t a n : Nat} {f : Nat → Int32} {i x : Int32} {r : Int × Int} {p : Nat → Prop} {A : Int} (hx : jEq i.toInt A) {X : Int} (hz : jEq x.toInt X) (hW : WTx p V) (hp : ¬ p a) (hd : decode M.2.1 pc = .ok (.iastore, 1)) (hV : V a = some (.inl (t, n, .inl f))) (ht : jT[t]? = some .int) (hc : jAc t = .inl r) (hi1 : 0 ≤ A) (hi2 : A < (n : Int)) (h1 : r.1 ≤ X) (h2 : X ≤ r.2) (kk : ∀ (V' : jH) (f' : Nat → Int32), WTx p V' → jeff [.inl t] V V' → V' a = some (.inl (t, n, .inl f')) → f' A.toNat = x → (∀ k, k ≠ A.toNat → f' k = f k) → (∀ b : Nat, b ≠ a → V' b = V b) → J tS M d (pc + 1) ls st V' kc ks Q) : J tS M d pc ls (.int x :: .int i :: .ref a :: st) V kc ks Q := by
  cases hx
  cases hz
  have h0 := hW a _ hp hV
  refine J_iast hd hV ht (vp_in_n hi1 hi2) (kk _ _ (hW.put hV jrel.arr (fun _ => ⟨h0.1, h0.2.1, ?_⟩)) (jeff.put hV jrel.arr List.mem_cons_self) jup_self (by exact pk_us) (fun k hk => pk_un hk) (fun b hb => jup_ne hb))
  have h3 := h0.2.2
  dsimp only at h3 ⊢
  rw [hc] at h3 ⊢
  obtain ⟨g, hg, h4⟩ := h3
  cases hg
  refine ⟨_, rfl, fun j hj => ?_⟩
  by_cases hq : j = i.toNatClampNeg
  · subst hq
    rw [pk_us]
    exact ⟨h1, h2⟩
  · rw [pk_un hq]
    exact h4 j hj
theorem Jz_putI {index ci k a : Nat} {r : Int × Int} {ty : FieldType} {x : Int32} {fs : List Value} {p : Nat → Prop} (h3 : V a = some (.inr (ci, fs))) (hW : WTx p V) (hp : ¬ p a) (hc : (jFs ci)[k]? = some (.inl r)) (hF : jF M.1.cls index ci k) (hT : jFt ci k false ty) {X : Int} (hz : jEq x.toInt X) (hd : decode M.2.1 pc = .ok (.putfield index, 3)) (h1 : r.1 ≤ X) (h2 : X ≤ r.2) (hn : ∀ q : Int32, q.toInt = X → narrow ty (.int q) = .int q ∧ fits ty (.int q) = true) (kk : ∀ (V' : jH) (fs' : List Value), WTx p V' → jeff [.inr ci] V V' → V' a = some (.inr (ci, fs')) → fs'[k]? = some (.int x) → (∀ j, j ≠ k → fs'[j]? = fs[j]?) → (∀ b : Nat, b ≠ a → V' b = V b) → J tS M d (pc + 3) ls st V' kc ks Q) : J tS M d pc ls (.int x :: .ref a :: st) V kc ks Q := by
  cases hz
  have h4 : jokO V (jFs ci) fs := hW a _ hp h3
  have hl : k < fs.length := by rw [h4.1]; exact (List.getElem?_eq_some_iff.mp hc).1
  exact J_put hF hT hd h3 (hn x rfl).1 (hn x rfl).2 hl (kk _ _ (hW.put h3 (jrel.obj (jokO_nrI h4 hc)) (fun _ => jokO_set h4 hc ⟨x, rfl, h1, h2⟩)) (jeff.put h3 (jrel.obj (jokO_nrI h4 hc)) List.mem_cons_self) jup_self (List.getElem?_set_self hl) (fun j hj => List.getElem?_set_ne (Ne.symm hj)) (fun b hb => jup_ne hb))
theorem Jz_putL {index ci k a : Nat} {ty : FieldType} {x : Int64} {fs : List Value} {p : Nat → Prop} (h3 : V a = some (.inr (ci, fs))) (hW : WTx p V) (hp : ¬ p a) (hc : (jFs ci)[k]? = some (.inr none)) (hF : jF M.1.cls index ci k) (hT : jFt ci k false ty) (hd : decode M.2.1 pc = .ok (.putfield index, 3)) (hn : narrow ty (.long x) = .long x) (hf : fits ty (.long x) = true) (kk : ∀ (V' : jH) (fs' : List Value), WTx p V' → jeff [.inr ci] V V' → V' a = some (.inr (ci, fs')) → fs'[k]? = some (.long x) → (∀ j, j ≠ k → fs'[j]? = fs[j]?) → (∀ b : Nat, b ≠ a → V' b = V b) → J tS M d (pc + 3) ls st V' kc ks Q) : J tS M d pc ls (.long x :: .ref a :: st) V kc ks Q := by
  have h4 : jokO V (jFs ci) fs := hW a _ hp h3
  have hl : k < fs.length := by rw [h4.1]; exact (List.getElem?_eq_some_iff.mp hc).1
  exact J_put hF hT hd h3 hn hf hl (kk _ _ (hW.put h3 (jrel.obj (jokO_nrL h4 hc)) (fun _ => jokO_set h4 hc ⟨x, rfl⟩)) (jeff.put h3 (jrel.obj (jokO_nrL h4 hc)) List.mem_cons_self) jup_self (List.getElem?_set_self hl) (fun j hj => List.getElem?_set_ne (Ne.symm hj)) (fun b hb => jup_ne hb))
end JZ
/-! how many bits are set (Long.bitCount) -/
def jG1 (b : Nat) : Nat := b - ((b / 2) &&& 85)
def jG2 (b : Nat) : Nat := (jG1 b &&& 51) + ((jG1 b / 4) &&& 51)
def jP8 (b : Nat) : Nat := (b.testBit 0).toNat + (b.testBit 1).toNat + (b.testBit 2).toNat + (b.testBit 3).toNat + (b.testBit 4).toNat + (b.testBit 5).toNat + (b.testBit 6).toNat + (b.testBit 7).toNat
theorem jG1_ok : ∀ b, b < 256 → (b / 2) &&& 85 ≤ b ∧ jG1 b < 256 := by decide +kernel
theorem jG1_hi : ∀ b, b < 256 → ∀ t, t < 2 → (b / 2 + 128 * t) &&& 85 = (b / 2) &&& 85 := by decide +kernel
theorem jG2_hi : ∀ b, b < 256 → ∀ t, t < 4 → (b / 4 + 64 * t) &&& 51 = (b / 4) &&& 51 := by decide +kernel
theorem jG2_ok : ∀ b, b < 256 → jG2 b < 256 ∧ jG2 b % 16 < 5 := by decide +kernel
theorem jG3_ok : ∀ b, b < 256 → ∀ t, t < 5 → jG2 b + jG2 b / 16 + 16 * t < 256 ∧ (jG2 b + jG2 b / 16 + 16 * t) &&& 15 = jP8 b := by decide +kernel
theorem jP8_le : ∀ b, b < 256 → jP8 b ≤ 8 := by decide +kernel
theorem jand8 {c m a b : Nat} (hc : c < 256) (hm : m < 256) : (c + 256 * a) &&& (m + 256 * b) = (c &&& m) + 256 * (a &&& b) := by
  apply Nat.eq_of_testBit_eq
  intro i
  rw [Nat.testBit_and, show c + 256 * a = 2 ^ 8 * a + c by omega, show m + 256 * b = 2 ^ 8 * b + m by omega, show (c &&& m) + 256 * (a &&& b) = 2 ^ 8 * (a &&& b) + (c &&& m) by omega, Nat.testBit_two_pow_mul_add _ hc, Nat.testBit_two_pow_mul_add _ hm, Nat.testBit_two_pow_mul_add _ (Nat.lt_of_le_of_lt Nat.and_le_left hc)]
  by_cases h : i < 8
  · simp [h]
  · simp [h]
def jV8 : List Nat → Nat
  | [] => 0
  | c :: cs => c + 256 * jV8 cs
def jM8 (m : Nat) : Nat → Nat
  | 0 => 0
  | k + 1 => m + 256 * jM8 m k
theorem jst1 : ∀ cs : List Nat, (∀ c ∈ cs, c < 256) → (jV8 cs / 2) &&& jM8 85 cs.length ≤ jV8 cs ∧ jV8 cs - ((jV8 cs / 2) &&& jM8 85 cs.length) = jV8 (cs.map jG1)
  | [], _ => ⟨Nat.le_refl _, rfl⟩
  | c :: cs, h => by
    have hc := h c List.mem_cons_self
    obtain ⟨i1, i2⟩ := jst1 cs (fun x hx => h x (List.mem_cons_of_mem _ hx))
    show ((c + 256 * jV8 cs) / 2) &&& (85 + 256 * jM8 85 cs.length) ≤ c + 256 * jV8 cs ∧ c + 256 * jV8 cs - (((c + 256 * jV8 cs) / 2) &&& (85 + 256 * jM8 85 cs.length)) = jG1 c + 256 * jV8 (cs.map jG1)
    have q : (c + 256 * jV8 cs) / 2 = (c / 2 + 128 * (jV8 cs % 2)) + 256 * (jV8 cs / 2) := by omega
    rw [q, jand8 (by omega) (by decide), jG1_hi c hc _ (by omega), ← i2]
    have o := jG1_ok c hc
    unfold jG1 at *
    omega
theorem jst2 : ∀ cs : List Nat, (∀ c ∈ cs, c < 256) → (jV8 cs &&& jM8 51 cs.length) + ((jV8 cs / 4) &&& jM8 51 cs.length) = jV8 (cs.map fun c => (c &&& 51) + ((c / 4) &&& 51))
  | [], _ => rfl
  | c :: cs, h => by
    have hc := h c List.mem_cons_self
    have i2 := jst2 cs (fun x hx => h x (List.mem_cons_of_mem _ hx))
    show ((c + 256 * jV8 cs) &&& (51 + 256 * jM8 51 cs.length)) + (((c + 256 * jV8 cs) / 4) &&& (51 + 256 * jM8 51 cs.length)) = ((c &&& 51) + ((c / 4) &&& 51)) + 256 * jV8 (cs.map fun c => (c &&& 51) + ((c / 4) &&& 51))
    have q : (c + 256 * jV8 cs) / 4 = (c / 4 + 64 * (jV8 cs % 4)) + 256 * (jV8 cs / 4) := by omega
    rw [q, jand8 hc (by decide), jand8 (by omega) (by decide), jG2_hi c hc _ (by omega), ← i2]
    omega
theorem jst3 : ∀ cs : List Nat, (∀ c ∈ cs, c < 256) → (jV8 (cs.map jG2) + jV8 (cs.map jG2) / 16) &&& jM8 15 cs.length = jV8 (cs.map jP8) ∧ jV8 (cs.map jG2) % 16 < 5
  | [], _ => ⟨rfl, by decide⟩
  | c :: cs, h => by
    have hc := h c List.mem_cons_self
    obtain ⟨i1, i2⟩ := jst3 cs (fun x hx => h x (List.mem_cons_of_mem _ hx))
    have o := jG2_ok c hc
    show ((jG2 c + 256 * jV8 (cs.map jG2)) + (jG2 c + 256 * jV8 (cs.map jG2)) / 16) &&& (15 + 256 * jM8 15 cs.length) = jP8 c + 256 * jV8 (cs.map jP8) ∧ (jG2 c + 256 * jV8 (cs.map jG2)) % 16 < 5
    refine ⟨?_, by omega⟩
    have q : (jG2 c + 256 * jV8 (cs.map jG2)) + (jG2 c + 256 * jV8 (cs.map jG2)) / 16 = (jG2 c + jG2 c / 16 + 16 * (jV8 (cs.map jG2) % 16)) + 256 * (jV8 (cs.map jG2) + jV8 (cs.map jG2) / 16) := by omega
    obtain ⟨o1, o2⟩ := jG3_ok c hc _ i2
    rw [q, jand8 o1 (by decide), o2, i1]
theorem jbytes (v : Nat) (h : v < 2 ^ 64) : v = jV8 [v % 256, v / 256 % 256, v / 65536 % 256, v / 16777216 % 256, v / 4294967296 % 256, v / 1099511627776 % 256, v / 281474976710656 % 256, v / 72057594037927936 % 256] := by
  show v = v % 256 + 256 * (v / 256 % 256 + 256 * (v / 65536 % 256 + 256 * (v / 16777216 % 256 + 256 * (v / 4294967296 % 256 + 256 * (v / 1099511627776 % 256 + 256 * (v / 281474976710656 % 256 + 256 * (v / 72057594037927936 % 256 + 256 * 0)))))))
  have h0 : v < 18446744073709551616 := h
  omega
def jsum (t : Nat → Nat) : Nat → Nat
  | 0 => 0
  | n + 1 => jsum t n + t n
def jswar (v : BitVec 64) : BitVec 64 :=
  let a := v - ((v >>> 1) &&& 0x5555555555555555#64)
  let b := (a &&& 0x3333333333333333#64) + ((a >>> 2) &&& 0x3333333333333333#64)
  let c := (b + (b >>> 4)) &&& 0x0f0f0f0f0f0f0f0f#64
  let d := c + (c >>> 8)
  let e := d + (d >>> 16)
  e + (e >>> 32)
theorem jfold {c p0 p1 p2 p3 p4 p5 p6 p7 : Nat} (hc : c = p0 + 256 * (p1 + 256 * (p2 + 256 * (p3 + 256 * (p4 + 256 * (p5 + 256 * (p6 + 256 * (p7 + 256 * 0)))))))) (h0 : p0 ≤ 8) (h1 : p1 ≤ 8) (h2 : p2 ≤ 8) (h3 : p3 ≤ 8) (h4 : p4 ≤ 8) (h5 : p5 ≤ 8) (h6 : p6 ≤ 8) (h7 : p7 ≤ 8) : ∃ d e f : Nat, d = c + c / 256 ∧ e = d + d / 65536 ∧ f = e + e / 4294967296 ∧ d < 18446744073709551616 ∧ e < 18446744073709551616 ∧ f < 18446744073709551616 ∧ f % 128 = p0 + p1 + p2 + p3 + p4 + p5 + p6 + p7 := by
  obtain ⟨y7, e7⟩ : ∃ y, y = p7 := ⟨_, rfl⟩
  obtain ⟨y6, e6⟩ : ∃ y, y = p6 + 256 * y7 := ⟨_, rfl⟩
  obtain ⟨y5, e5⟩ : ∃ y, y = p5 + 256 * y6 := ⟨_, rfl⟩
  obtain ⟨y4, e4⟩ : ∃ y, y = p4 + 256 * y5 := ⟨_, rfl⟩
  obtain ⟨y3, e3⟩ : ∃ y, y = p3 + 256 * y4 := ⟨_, rfl⟩
  obtain ⟨y2, e2⟩ : ∃ y, y = p2 + 256 * y3 := ⟨_, rfl⟩
  obtain ⟨y1, e1⟩ : ∃ y, y = p1 + 256 * y2 := ⟨_, rfl⟩
  have hc : c = p0 + 256 * y1 := by rw [hc, e1, e2, e3, e4, e5, e6, e7, Nat.mul_zero, Nat.add_zero]
  have b7 : y7 ≤ 8 := by omega
  have b6 : y6 ≤ 2056 := by clear hc e5 e4 e3 e2 e1; omega
  have b5 : y5 ≤ 526344 := by clear hc e7 e6 e4 e3 e2 e1; omega
  have b4 : y4 ≤ 134744072 := by clear hc e7 e6 e5 e3 e2 e1; omega
  have b3 : y3 ≤ 34494482440 := by clear hc e7 e6 e5 e4 e2 e1; omega
  have b2 : y2 ≤ 8830587504648 := by clear hc e7 e6 e5 e4 e3 e1; omega
  have b1 : y1 ≤ 2260630401189896 := by clear hc e7 e6 e5 e4 e3 e2; omega
  have b0 : c ≤ 578721382704613384 := by clear e7 e6 e5 e4 e3 e2 e1; omega
  have q1 : c / 256 = y1 := by rw [hc, Nat.add_mul_div_left _ _ (by decide), Nat.div_eq_of_lt (by omega), Nat.zero_add]
  obtain ⟨d, hd⟩ : ∃ d, d = c + y1 := ⟨_, rfl⟩
  have q2 : d / 65536 = y2 + y3 := by
    rw [show d = ((p0 + p1) + 256 * (p1 + p2)) + 65536 * (y2 + y3) by rw [hd, hc, e1, e2]; omega, Nat.add_mul_div_left _ _ (by decide), Nat.div_eq_of_lt (by omega), Nat.zero_add]
  obtain ⟨e, he⟩ : ∃ e, e = d + (y2 + y3) := ⟨_, rfl⟩
  have q3 : e / 4294967296 = y4 + y5 + y6 + y7 := by
    rw [show e = ((p0 + p1 + p2 + p3) + 256 * (p1 + p2 + p3 + p4) + 65536 * ((p2 + p3 + p4 + p5) + 256 * (p3 + p4 + p5 + p6))) + 4294967296 * (y4 + y5 + y6 + y7) by rw [he, hd, hc, e1, e2, e3, e4, e5]; omega, Nat.add_mul_div_left _ _ (by decide), Nat.div_eq_of_lt (by omega), Nat.zero_add]
  refine ⟨d, e, e + (y4 + y5 + y6 + y7), by rw [hd, q1], by rw [he, q2], by rw [q3], by omega, by omega, by omega, ?_⟩
  rw [show e + (y4 + y5 + y6 + y7) = (p0 + p1 + p2 + p3 + p4 + p5 + p6 + p7) + 128 * (2 * ((p1 + p2 + p3 + p4) + 256 * ((p2 + p3 + p4 + p5) + 256 * (p3 + p4 + p5 + p6)) + 16777216 * (y4 + y5 + y6 + y7) + (y5 + y6 + y7))) by rw [he, hd, hc, e1, e2, e3, e4, e5, e6, e7]; omega, Nat.add_mul_mod_self_left, Nat.mod_eq_of_lt (by omega)]
set_option maxHeartbeats 2000000 in
theorem jpop {v : BitVec 64} : (jswar v).toNat % 128 = jsum (fun n => (v.getLsbD n).toNat) 64 := by
  have hv := v.isLt
  have hb := jbytes v.toNat hv
  generalize hcs : [v.toNat % 256, v.toNat / 256 % 256, v.toNat / 65536 % 256, v.toNat / 16777216 % 256, v.toNat / 4294967296 % 256, v.toNat / 1099511627776 % 256, v.toNat / 281474976710656 % 256, v.toNat / 72057594037927936 % 256] = cs at hb
  have hl : cs.length = 8 := by rw [← hcs]; rfl
  have hlt : ∀ c ∈ cs, c < 256 := by
    rw [← hcs]
    intro c hc
    simp only [List.mem_cons, List.not_mem_nil, or_false] at hc
    omega
  -- step 1
  obtain ⟨s1, s1e⟩ := jst1 cs hlt
  have h1 : ∀ c ∈ cs.map jG1, c < 256 := by
    intro c hc
    obtain ⟨x, hx, rfl⟩ := List.mem_map.mp hc
    exact (jG1_ok x (hlt x hx)).2
  have s2 := jst2 (cs.map jG1) h1
  have s3 := (jst3 cs hlt).1
  rw [List.length_map, List.map_map] at s2
  have s2' : (jV8 (cs.map jG1) &&& jM8 51 8) + ((jV8 (cs.map jG1) / 4) &&& jM8 51 8) = jV8 (cs.map jG2) := by rw [← hl]; exact s2
  rw [hl] at s1 s1e s3
  rw [← hb] at s1 s1e
  have hsh : ∀ (x : BitVec 64) (k : Nat), (x >>> k).toNat = x.toNat / 2 ^ k := fun x k => by rw [BitVec.toNat_ushiftRight, Nat.shiftRight_eq_div_pow]
  unfold jswar
  dsimp only
  generalize ha : v - ((v >>> 1) &&& 0x5555555555555555#64) = a
  have ea : a.toNat = jV8 (cs.map jG1) := by
    have h2 : ((v >>> 1) &&& 0x5555555555555555#64).toNat = (v.toNat / 2) &&& jM8 85 8 := by rw [BitVec.toNat_and, hsh]; rfl
    rw [← ha, BitVec.toNat_sub_of_le (by rw [BitVec.le_def, h2]; exact s1), h2, s1e]
  clear ha
  generalize hb2 : (a &&& 0x3333333333333333#64) + ((a >>> 2) &&& 0x3333333333333333#64) = b
  have eb : b.toNat = jV8 (cs.map jG2) := by
    rw [← hb2, BitVec.toNat_add, BitVec.toNat_and, BitVec.toNat_and, hsh, ea, ← s2']
    refine Nat.mod_eq_of_lt ?_
    have q1 : jV8 (cs.map jG1) &&& jM8 51 8 ≤ jM8 51 8 := Nat.and_le_right
    have q2 : jV8 (cs.map jG1) / 4 &&& jM8 51 8 ≤ jM8 51 8 := Nat.and_le_right
    have q3 : jM8 51 8 = 3689348814741910323 := rfl
    show (jV8 (cs.map jG1) &&& jM8 51 8) + (jV8 (cs.map jG1) / 4 &&& jM8 51 8) < 18446744073709551616
    omega
  clear hb2 ea s1 s1e
  generalize hc2 : (b + (b >>> 4)) &&& 0x0f0f0f0f0f0f0f0f#64 = c
  have hbs : jV8 (cs.map jG2) ≤ 2 * jM8 51 8 := by
    rw [← s2']
    have q1 : jV8 (cs.map jG1) &&& jM8 51 8 ≤ jM8 51 8 := Nat.and_le_right
    have q2 : jV8 (cs.map jG1) / 4 &&& jM8 51 8 ≤ jM8 51 8 := Nat.and_le_right
    omega
  have ec : c.toNat = jV8 (cs.map jP8) := by
    have q3 : jM8 51 8 = 3689348814741910323 := rfl
    rw [← hc2, BitVec.toNat_and, BitVec.toNat_add, hsh, eb, Nat.mod_eq_of_lt (show _ < 18446744073709551616 by omega)]
    exact s3
  clear hc2 eb s2 s2'
  have hp : ∀ x : Nat, x ∈ cs → jP8 x ≤ 8 := fun x hx => jP8_le x (hlt x hx)
  rw [← hcs] at ec hp
  have e0 := hp _ (List.mem_cons_self)
  have e1 := hp _ (List.mem_cons_of_mem _ List.mem_cons_self)
  have e2 := hp _ (List.mem_cons_of_mem _ (List.mem_cons_of_mem _ List.mem_cons_self))
  have e3 := hp _ (List.mem_cons_of_mem _ (List.mem_cons_of_mem _ (List.mem_cons_of_mem _ List.mem_cons_self)))
  have e4 := hp _ (List.mem_cons_of_mem _ (List.mem_cons_of_mem _ (List.mem_cons_of_mem _ (List.mem_cons_of_mem _ List.mem_cons_self))))
  have e5 := hp _ (List.mem_cons_of_mem _ (List.mem_cons_of_mem _ (List.mem_cons_of_mem _ (List.mem_cons_of_mem _ (List.mem_cons_of_mem _ List.mem_cons_self)))))
  have e6 := hp _ (List.mem_cons_of_mem _ (List.mem_cons_of_mem _ (List.mem_cons_of_mem _ (List.mem_cons_of_mem _ (List.mem_cons_of_mem _ (List.mem_cons_of_mem _ List.mem_cons_self))))))
  have e7 := hp _ (List.mem_cons_of_mem _ (List.mem_cons_of_mem _ (List.mem_cons_of_mem _ (List.mem_cons_of_mem _ (List.mem_cons_of_mem _ (List.mem_cons_of_mem _ (List.mem_cons_of_mem _ List.mem_cons_self)))))))
  have hbit : ∀ (k d : Nat), d = 2 ^ (8 * k) → jP8 (v.toNat / d % 256) = (v.getLsbD (8 * k)).toNat + (v.getLsbD (8 * k + 1)).toNat + (v.getLsbD (8 * k + 2)).toNat + (v.getLsbD (8 * k + 3)).toNat + (v.getLsbD (8 * k + 4)).toNat + (v.getLsbD (8 * k + 5)).toNat + (v.getLsbD (8 * k + 6)).toNat + (v.getLsbD (8 * k + 7)).toNat := by
    rintro k _ rfl
    have hz : ∀ j, j < 8 → (v.toNat / 2 ^ (8 * k) % 256).testBit j = v.getLsbD (8 * k + j) := fun j hj => by
      rw [show (256 : Nat) = 2 ^ 8 from rfl, Nat.testBit_mod_two_pow, Nat.testBit_div_two_pow, BitVec.getLsbD, Nat.add_comm, decide_eq_true hj, Bool.true_and]
    unfold jP8
    rw [hz 0 (by decide), hz 1 (by decide), hz 2 (by decide), hz 3 (by decide), hz 4 (by decide), hz 5 (by decide), hz 6 (by decide), hz 7 (by decide)]
    rfl
  have b0 := hbit 0 1 rfl
  have b1 := hbit 1 256 rfl
  have b2 := hbit 2 65536 rfl
  have b3 := hbit 3 16777216 rfl
  have b4 := hbit 4 4294967296 rfl
  have b5 := hbit 5 1099511627776 rfl
  have b6 := hbit 6 281474976710656 rfl
  have b7 := hbit 7 72057594037927936 rfl
  rw [Nat.div_one] at b0
  have hs : jsum (fun n => (v.getLsbD n).toNat) 64 = jP8 (v.toNat % 256) + jP8 (v.toNat / 256 % 256) + jP8 (v.toNat / 65536 % 256) + jP8 (v.toNat / 16777216 % 256) + jP8 (v.toNat / 4294967296 % 256) + jP8 (v.toNat / 1099511627776 % 256) + jP8 (v.toNat / 281474976710656 % 256) + jP8 (v.toNat / 72057594037927936 % 256) := by
    rw [b0, b1, b2, b3, b4, b5, b6, b7]
    simp only [jsum, Nat.zero_add, Nat.mul_zero, Nat.reduceMul, Nat.reduceAdd, ← Nat.add_assoc]
  rw [hs]
  simp only [List.map, jV8] at ec
  clear hs b0 b1 b2 b3 b4 b5 b6 b7 hbit hp hcs hl hlt h1 s3 hb hbs
  generalize jP8 (v.toNat % 256) = p0 at *
  generalize jP8 (v.toNat / 256 % 256) = p1 at *
  generalize jP8 (v.toNat / 65536 % 256) = p2 at *
  generalize jP8 (v.toNat / 16777216 % 256) = p3 at *
  generalize jP8 (v.toNat / 4294967296 % 256) = p4 at *
  generalize jP8 (v.toNat / 1099511627776 % 256) = p5 at *
  generalize jP8 (v.toNat / 281474976710656 % 256) = p6 at *
  generalize jP8 (v.toNat / 72057594037927936 % 256) = p7 at *
  obtain ⟨d, e, f, hd, he, hf, ld, le, lf, hr⟩ := jfold (ec.trans rfl) e0 e1 e2 e3 e4 e5 e6 e7
  have g1 : (c + (c >>> 8)).toNat = d := by
    rw [BitVec.toNat_add, hsh, hd]
    exact Nat.mod_eq_of_lt (by rw [hd] at ld; exact ld)
  have g2 : (c + (c >>> 8) + ((c + (c >>> 8)) >>> 16)).toNat = e := by
    rw [BitVec.toNat_add, hsh, g1, he]
    exact Nat.mod_eq_of_lt (by rw [he] at le; exact le)
  rw [BitVec.toNat_add, hsh, g2]
  refine Eq.trans (congrArg (· % 128) (Nat.mod_eq_of_lt ?_)) ?_
  · rw [hf] at lf
    exact lf
  · rw [← hr, hf]
theorem jsum_add (t : Nat → Nat) (n : Nat) : ∀ m, jsum t (n + m) = jsum t n + jsum (fun i => t (n + i)) m
  | 0 => rfl
  | m + 1 => by
    show jsum t (n + m) + t (n + m) = jsum t n + (jsum (fun i => t (n + i)) m + t (n + m))
    rw [jsum_add t n m, Nat.add_assoc]
theorem jsum_zero {t : Nat → Nat} : ∀ n, (∀ i, i < n → t i = 0) → jsum t n = 0
  | 0, _ => rfl
  | n + 1, h => by
    show jsum t n + t n = 0
    rw [jsum_zero n (fun i hi => h i (by omega)), h n (by omega)]
theorem jsum_congr {t u : Nat → Nat} : ∀ n, (∀ i, i < n → t i = u i) → jsum t n = jsum u n
  | 0, _ => rfl
  | n + 1, h => by
    show jsum t n + t n = jsum u n + u n
    rw [jsum_congr n (fun i hi => h i (by omega)), h n (by omega)]
theorem jcn_add (c : Int) (F : Nat → Int32) (n : Nat) : ∀ m, jcn c F (n + m) = jcn c F n + jsum (fun i => if (F (n + i)).toInt = c then 0 else 1) m
  | 0 => rfl
  | m + 1 => by
    show jcn c F (n + m) + (if (F (n + m)).toInt = c then 0 else 1) = jcn c F n + (jsum (fun i => if (F (n + i)).toInt = c then 0 else 1) m + (if (F (n + m)).toInt = c then 0 else 1))
    rw [jcn_add c F n m, Nat.add_assoc]
/-- as many bits as places that are no holes -/
theorem jopen_sum {T : Nat → Bool} {H : Nat → Int32} {w h : Nat} (hw : w ≤ 6) (hh : h ≤ 6) (hH : ∀ k, k < w * h → 0 ≤ (H k).toInt ∧ (H k).toInt ≤ 1) (hb : ∀ n : Nat, T n = true ↔ ∃ a b : Nat, (a < w ∧ b < h) ∧ n = 9 + a + 8 * b ∧ (H (a + w * b)).toInt = 0) : jsum (fun n => (T n).toNat) 64 = jcn 1 H (w * h) := by
  have off : ∀ n, (¬ ∃ a b : Nat, (a < w ∧ b < h) ∧ n = 9 + a + 8 * b) → (T n).toNat = 0 := fun n hn => by
    cases hT : T n with
    | false => rfl
    | true =>
      obtain ⟨a, b, q, e, -⟩ := (hb n).mp hT
      exact absurd ⟨a, b, q, e⟩ hn
  have on : ∀ a b, a < w → b < h → (T (9 + a + 8 * b)).toNat = if (H (w * b + a)).toInt = 1 then 0 else 1 := fun a b ha hb2 => by
    have hlt : w * b + a < w * h := by
      have h1 : w * (b + 1) ≤ w * h := Nat.mul_le_mul_left _ hb2
      rw [Nat.mul_add, Nat.mul_one] at h1
      omega
    have h2 := hH _ hlt
    cases hT : T (9 + a + 8 * b) with
    | false =>
      rw [if_pos]
      · rfl
      · have h3 : ¬ (H (w * b + a)).toInt = 0 := fun z => by
          have h4 := (hb (9 + a + 8 * b)).mpr ⟨a, b, ⟨ha, hb2⟩, rfl, by rw [Nat.add_comm]; exact z⟩
          rw [hT] at h4
          cases h4
        omega
    | true =>
      obtain ⟨a2, b2, q, e, z⟩ := (hb _).mp hT
      have h3 : a2 = a := by omega
      have h4 : b2 = b := by omega
      subst h3
      subst h4
      rw [Nat.add_comm] at z
      rw [if_neg (by omega)]
      rfl
  have key : ∀ b, b ≤ h → jsum (fun n => (T n).toNat) (8 * (b + 1)) = jcn 1 H (w * b) := by
    intro b
    induction b with
    | zero =>
      intro _
      rw [Nat.mul_zero]
      exact jsum_zero _ (fun i hi => off i (fun ⟨a, b, q, e⟩ => by omega))
    | succ b ih =>
      intro hb2
      have e1 : 8 * (b + 1 + 1) = 8 * (b + 1) + (1 + (w + (7 - w))) := by omega
      rw [e1, jsum_add, ih (by omega), jsum_add, jsum_add, show w * (b + 1) = w * b + w by rw [Nat.mul_add, Nat.mul_one], jcn_add]
      rw [jsum_zero 1 (fun i hi => off _ (fun ⟨a, b, q, e⟩ => by omega)), jsum_zero (7 - w) (fun i hi => off _ (fun ⟨a, b, q, e⟩ => by omega)), Nat.zero_add, Nat.add_zero]
      refine congrArg _ (jsum_congr w (fun a ha => ?_))
      rw [← on a b ha (by omega)]
      refine congrArg (fun z => (T z).toNat) ?_
      omega
  rw [show 64 = 8 * (h + 1) + (56 - 8 * h) by omega, jsum_add, key h (Nat.le_refl _), jsum_zero (56 - 8 * h) (fun i hi => off _ (fun ⟨a, b, q, e⟩ => by omega)), Nat.add_zero]
abbrev jlsr (x : Int64) (k : Int32) : Int64 := (x.toUInt64 >>> (k.toInt64.toUInt64 &&& Int64.toUInt64 63)).toInt64
theorem jlsr_bv (x : Int64) (k : Int32) (n : Nat) (hn : n < 64) (hk : k.toInt64.toUInt64 &&& Int64.toUInt64 63 = UInt64.ofNat n) : (jlsr x k).toBitVec = x.toBitVec >>> n := by
  unfold jlsr
  rw [hk]
  show (x.toUInt64 >>> UInt64.ofNat n).toBitVec = x.toUInt64.toBitVec >>> n
  rw [UInt64.toBitVec_shiftRight]
  apply BitVec.eq_of_toNat_eq
  rw [BitVec.toNat_ushiftRight]
  show _ >>> (UInt64.ofNat n % 64).toNat = _
  rw [UInt64.toNat_mod, UInt64.toNat_ofNat']
  show _ >>> (n % 18446744073709551616 % 64) = _
  rw [Nat.mod_eq_of_lt (show n < 18446744073709551616 by omega), Nat.mod_eq_of_lt hn]
def jswr (x : Int64) : Int64 :=
  let a := x - (jlsr x 1 &&& (6148914691236517205 : Int64))
  let b := (a &&& (3689348814741910323 : Int64)) + (jlsr a 2 &&& (3689348814741910323 : Int64))
  let c := (b + jlsr b 4) &&& (1085102592571150095 : Int64)
  let d := c + jlsr c 8
  let e := d + jlsr d 16
  e + jlsr e 32
theorem jswr_bv (x : Int64) : (jswr x).toBitVec = jswar x.toBitVec := by
  unfold jswr jswar
  dsimp only
  simp only [Int64.toBitVec_add, Int64.toBitVec_sub, Int64.toBitVec_and, jlsr_bv _ 1 1 (by decide) (by decide), jlsr_bv _ 2 2 (by decide) (by decide), jlsr_bv _ 4 4 (by decide) (by decide), jlsr_bv _ 8 8 (by decide) (by decide), jlsr_bv _ 16 16 (by decide) (by decide), jlsr_bv _ 32 32 (by decide) (by decide)]
  rfl
theorem jsum_le {t : Nat → Nat} : ∀ n, (∀ i, i < n → t i ≤ 1) → jsum t n ≤ n
  | 0, _ => Nat.le_refl _
  | n + 1, h => by
    have h1 := jsum_le n (fun i hi => h i (by omega))
    have h2 := h n (by omega)
    show jsum t n + t n ≤ n + 1
    omega
theorem jbc (x : Int64) : ((jswr x).toInt32 &&& 127).toInt = ((jsum (fun n => (jbt x n).toNat) 64 : Nat) : Int) := by
  show _ = ((jsum (fun n => (x.toBitVec.getLsbD n).toNat) 64 : Nat) : Int)
  have h1 := jpop (v := x.toBitVec)
  rw [← jswr_bv] at h1
  have h2 := jsum_le (t := fun n => (x.toBitVec.getLsbD n).toNat) 64 (fun i _ => by cases x.toBitVec.getLsbD i <;> decide)
  have h3 : ((jswr x).toInt32 &&& 127).toBitVec.toNat = (jswr x).toBitVec.toNat % 128 := by
    rw [Int32.toBitVec_and, BitVec.toNat_and]
    show ((jswr x).toInt32.toBitVec.toNat) &&& 127 = _
    rw [show (127 : Nat) = 2 ^ 7 - 1 from rfl, Nat.and_two_pow_sub_one_eq_mod]
    show ((jswr x).toInt32.toBitVec.toNat) % 128 = _
    have h4 : (jswr x).toInt32.toBitVec.toNat = (jswr x).toBitVec.toNat % 4294967296 := by
      have h5 : (jswr x).toInt32.toBitVec = (jswr x).toBitVec.signExtend 32 := Int64.toBitVec_toInt32 _
      rw [h5, BitVec.signExtend_eq_setWidth_of_le _ (by decide), BitVec.toNat_setWidth]
    rw [h4]
    omega
  have h6 : ((jswr x).toInt32 &&& 127).toInt = ((((jswr x).toInt32 &&& 127).toBitVec.toNat : Nat) : Int) := by
    show ((jswr x).toInt32 &&& 127).toBitVec.toInt = _
    rw [BitVec.toInt_eq_toNat_of_lt]
    rw [h3]
    omega
  rw [h6, h3, h1]
/-! walks: where a row of directions leads -/
def jsx (g d : Int) : Int := if g = 0 then (if d = 0 then 1 else if d = 2 then -1 else 0) else if g = 1 then (if d = 0 ∨ d = 5 then 1 else if d = 2 ∨ d = 3 then -1 else 0) else if g = 2 then (if d = 0 then 1 else if d = 1 then -1 else 0) else (if d = 0 then 1 else if d = 3 then -1 else 0)
def jsy (g d s : Int) : Int := if g = 0 then (if d = 1 then 1 else if d = 3 then -1 else 0) else if g = 1 then (if d = 1 ∨ d = 2 then 1 else if d = 4 ∨ d = 5 then -1 else 0) else if g = 2 then (if d < 2 then 0 else if s % 2 = 0 then 1 else -1) else (if d = 1 then 1 else if d = 4 then -1 else 0)
def jsz (g d : Int) : Int := if g = 3 then (if d = 2 then 1 else if d = 5 then -1 else 0) else 0
theorem jsx_b (g d : Int) : -1 ≤ jsx g d ∧ jsx g d ≤ 1 := by unfold jsx; constructor <;> (repeat' split) <;> omega
theorem jsy_b (g d s : Int) : -1 ≤ jsy g d s ∧ jsy g d s ≤ 1 := by unfold jsy; constructor <;> (repeat' split) <;> omega
theorem jsz_b (g d : Int) : -1 ≤ jsz g d ∧ jsz g d ≤ 1 := by unfold jsz; constructor <;> (repeat' split) <;> omega
def jPt (g : Int) (T : Nat → Int) : Nat → Int × Int × Int
  | 0 => (0, 0, 0)
  | i + 1 => ((jPt g T i).1 + jsx g (T i), (jPt g T i).2.1 + jsy g (T i) ((jPt g T i).1 + (jPt g T i).2.1), (jPt g T i).2.2 + jsz g (T i))
/-- no place twice -/
def jav (g : Int) (T : Nat → Int) (n : Nat) : Prop := ∀ i j : Nat, i < j → j ≤ n → ¬ jPt g T i = jPt g T j
theorem jPt_b (g : Int) (T : Nat → Int) : ∀ i : Nat, (-(i : Int) ≤ (jPt g T i).1 ∧ (jPt g T i).1 ≤ i) ∧ (-(i : Int) ≤ (jPt g T i).2.1 ∧ (jPt g T i).2.1 ≤ i) ∧ (-(i : Int) ≤ (jPt g T i).2.2 ∧ (jPt g T i).2.2 ≤ i)
  | 0 => by
    simp only [jPt]
    omega
  | i + 1 => by
    have h := jPt_b g T i
    have h1 := jsx_b g (T i)
    have h2 := jsy_b g (T i) ((jPt g T i).1 + (jPt g T i).2.1)
    have h3 := jsz_b g (T i)
    simp only [jPt]
    omega
theorem jPt_congr {g : Int} {T U : Nat → Int} : ∀ i : Nat, (∀ k, k < i → T k = U k) → jPt g T i = jPt g U i
  | 0, _ => rfl
  | i + 1, h => by
    simp only [jPt]
    rw [jPt_congr i (fun k hk => h k (by omega)), h i (by omega)]
theorem jav.congr {g : Int} {T U : Nat → Int} {n : Nat} (h : ∀ k, k < n → T k = U k) (ha : jav g T n) : jav g U n := fun i j hi hj => by
  rw [← jPt_congr i (fun k hk => h k (by omega)), ← jPt_congr j (fun k hk => h k (by omega))]
  exact ha i j hi hj
theorem jav.mono {g : Int} {T : Nat → Int} {n m : Nat} (h : jav g T n) (hm : m ≤ n) : jav g T m := fun i j hi hj => h i j hi (by omega)
theorem jav.zero {g : Int} {T : Nat → Int} : jav g T 0 := fun i j hi hj => by omega
theorem jav_succ {g : Int} {T : Nat → Int} {n : Nat} : jav g T (n + 1) ↔ jav g T n ∧ ∀ i, i ≤ n → ¬ jPt g T i = jPt g T (n + 1) := by
  constructor
  · intro h
    exact ⟨h.mono (by omega), fun i hi => h i (n + 1) (by omega) (Nat.le_refl _)⟩
  · rintro ⟨h1, h2⟩ i j hi hj
    by_cases e : j = n + 1
    · subst e
      exact h2 i (by omega)
    · exact h1 i j hi (by omega)
def jopp (g d : Int) : Int := if g = 2 then (if d = 2 then 2 else 1 - d) else if g = 0 then (if d < 2 then d + 2 else d - 2) else (if d < 3 then d + 3 else d - 3)
theorem jopp_b {g d : Int} (h0 : 0 ≤ d) (h1 : d < jdir g) : 0 ≤ jopp g d ∧ jopp g d < jdir g := by
  unfold jdir jopp at *
  constructor <;> (repeat' split) <;> (repeat' split at h1) <;> omega
theorem jopp_x {g d : Int} (hg : 0 ≤ g) (hg3 : g ≤ 3) (h0 : 0 ≤ d) (h1 : d < jdir g) : jsx g (jopp g d) = - jsx g d := by
  have hg4 : g = 0 ∨ g = 1 ∨ g = 2 ∨ g = 3 := by omega
  rcases hg4 with rfl | rfl | rfl | rfl
  · have h1 : d < 4 := h1
    have hd : d = 0 ∨ d = 1 ∨ d = 2 ∨ d = 3 := by omega
    rcases hd with rfl | rfl | rfl | rfl <;> rfl
  · have h1 : d < 6 := h1
    have hd : d = 0 ∨ d = 1 ∨ d = 2 ∨ d = 3 ∨ d = 4 ∨ d = 5 := by omega
    rcases hd with rfl | rfl | rfl | rfl | rfl | rfl <;> rfl
  · have h1 : d < 3 := h1
    have hd : d = 0 ∨ d = 1 ∨ d = 2 := by omega
    rcases hd with rfl | rfl | rfl <;> rfl
  · have h1 : d < 6 := h1
    have hd : d = 0 ∨ d = 1 ∨ d = 2 ∨ d = 3 ∨ d = 4 ∨ d = 5 := by omega
    rcases hd with rfl | rfl | rfl | rfl | rfl | rfl <;> rfl
theorem jopp_z {g d : Int} (hg : 0 ≤ g) (hg3 : g ≤ 3) (h0 : 0 ≤ d) (h1 : d < jdir g) : jsz g (jopp g d) = - jsz g d := by
  have hg4 : g = 0 ∨ g = 1 ∨ g = 2 ∨ g = 3 := by omega
  rcases hg4 with rfl | rfl | rfl | rfl
  · rfl
  · rfl
  · rfl
  · have h1 : d < 6 := h1
    have hd : d = 0 ∨ d = 1 ∨ d = 2 ∨ d = 3 ∨ d = 4 ∨ d = 5 := by omega
    rcases hd with rfl | rfl | rfl | rfl | rfl | rfl <;> rfl
theorem jopp_y {g d s u : Int} (hg : 0 ≤ g) (hg3 : g ≤ 3) (h0 : 0 ≤ d) (h1 : d < jdir g) (hs : g = 2 → d = 2 → (s % 2 = 0 ↔ ¬ u % 2 = 0)) : jsy g (jopp g d) u = - jsy g d s := by
  have hg4 : g = 0 ∨ g = 1 ∨ g = 2 ∨ g = 3 := by omega
  rcases hg4 with rfl | rfl | rfl | rfl
  · have h1 : d < 4 := h1
    have hd : d = 0 ∨ d = 1 ∨ d = 2 ∨ d = 3 := by omega
    rcases hd with rfl | rfl | rfl | rfl <;> rfl
  · have h1 : d < 6 := h1
    have hd : d = 0 ∨ d = 1 ∨ d = 2 ∨ d = 3 ∨ d = 4 ∨ d = 5 := by omega
    rcases hd with rfl | rfl | rfl | rfl | rfl | rfl <;> rfl
  · have h1 : d < 3 := h1
    have hd : d = 0 ∨ d = 1 ∨ d = 2 := by omega
    rcases hd with rfl | rfl | rfl
    · rfl
    · rfl
    · have q := hs rfl rfl
      show (if u % 2 = 0 then (1 : Int) else -1) = - (if s % 2 = 0 then (1 : Int) else -1)
      by_cases c : s % 2 = 0
      · rw [if_pos c, if_neg (q.mp c)]
      · rw [if_neg c, if_pos (by omega)]
        rfl
  · have h1 : d < 6 := h1
    have hd : d = 0 ∨ d = 1 ∨ d = 2 ∨ d = 3 ∨ d = 4 ∨ d = 5 := by omega
    rcases hd with rfl | rfl | rfl | rfl | rfl | rfl <;> rfl
/-- a walk gone back -/
theorem jback {g : Int} {T U : Nat → Int} {n : Nat} (hg : 0 ≤ g) (hg3 : g ≤ 3) (hT : ∀ i, i < n → 0 ≤ T i ∧ T i < jdir g) (hp : g = 2 → ((jPt g T n).1 + (jPt g T n).2.1) % 2 = 0) (hU : ∀ i, i < n → U i = jopp g (T (n - 1 - i))) : ∀ i, i ≤ n → (jPt g U i).1 = (jPt g T (n - i)).1 - (jPt g T n).1 ∧ (jPt g U i).2.1 = (jPt g T (n - i)).2.1 - (jPt g T n).2.1 ∧ (jPt g U i).2.2 = (jPt g T (n - i)).2.2 - (jPt g T n).2.2
  | 0, _ => by simp [jPt]
  | i + 1, hi => by
    obtain ⟨h1, h2, h3⟩ := jback hg hg3 hT hp hU i (by omega)
    have e : n - i = (n - 1 - i) + 1 := by omega
    have e2 : n - (i + 1) = n - 1 - i := by omega
    have hr := hT (n - 1 - i) (by omega)
    rw [e] at h1 h2 h3
    rw [e2]
    simp only [jPt] at h1 h2 h3 ⊢
    rw [hU i (by omega), jopp_x hg hg3 hr.1 hr.2, jopp_z hg hg3 hr.1 hr.2, jopp_y (s := (jPt g T (n - 1 - i)).1 + (jPt g T (n - 1 - i)).2.1) hg hg3 hr.1 hr.2 (fun q1 q2 => by
      have q3 := hp q1
      rw [h1, h2, q2]
      have q4 : jsx g 2 = 0 := by rw [q1]; rfl
      have q5 : jsy g 2 ((jPt g T (n - 1 - i)).1 + (jPt g T (n - 1 - i)).2.1) = 1 ∨ jsy g 2 ((jPt g T (n - 1 - i)).1 + (jPt g T (n - 1 - i)).2.1) = -1 := by
        rw [q1]
        show (if _ then (1 : Int) else -1) = 1 ∨ (if _ then (1 : Int) else -1) = -1
        split
        · exact Or.inl rfl
        · exact Or.inr rfl
      rw [q4]
      omega), h1, h2, h3]
    omega
theorem jav.back {g : Int} {T U : Nat → Int} {n : Nat} (hg : 0 ≤ g) (hg3 : g ≤ 3) (hT : ∀ i, i < n → 0 ≤ T i ∧ T i < jdir g) (hp : g = 2 → ((jPt g T n).1 + (jPt g T n).2.1) % 2 = 0) (hU : ∀ i, i < n → U i = jopp g (T (n - 1 - i))) (ha : jav g T n) : jav g U n := fun i j hi hj he => by
  obtain ⟨a1, a2, a3⟩ := jback hg hg3 hT hp hU i (by omega)
  obtain ⟨b1, b2, b3⟩ := jback hg hg3 hT hp hU j (by omega)
  refine ha (n - j) (n - i) (by omega) (by omega) ?_
  rw [he] at a1 a2 a3
  exact Prod.ext (by omega) (Prod.ext (by omega) (by omega))
/-- places in three arrays -/
def jrv (g : Int) (T : Nat → Int) (n : Nat) (X Y Z : Nat → Int32) : Prop := ∀ i, i ≤ n → (X i).toInt = (jPt g T i).1 ∧ (Y i).toInt = (jPt g T i).2.1 ∧ (Z i).toInt = (jPt g T i).2.2
theorem jrv.lay {g : Int} {T : Nat → Int} {n : Nat} {X Y Z X2 Y2 Z2 : Nat → Int32} (h : jrv g T n X Y Z) (hx : (X2 (n + 1)).toInt = (X n).toInt + jsx g (T n)) (hy : (Y2 (n + 1)).toInt = (Y n).toInt + jsy g (T n) ((X n).toInt + (Y n).toInt)) (hz : (Z2 (n + 1)).toInt = (Z n).toInt + jsz g (T n)) (ox : ∀ i, i ≠ n + 1 → X2 i = X i) (oy : ∀ i, i ≠ n + 1 → Y2 i = Y i) (oz : ∀ i, i ≠ n + 1 → Z2 i = Z i) : jrv g T (n + 1) X2 Y2 Z2 := fun i hi => by
  by_cases e : i = n + 1
  · subst e
    have q := h n (Nat.le_refl _)
    simp only [jPt]
    rw [hx, hy, hz, q.1, q.2.1, q.2.2]
    exact ⟨rfl, rfl, rfl⟩
  · rw [ox i e, oy i e, oz i e]
    exact h i (by omega)
theorem jrv.congr {g : Int} {T U : Nat → Int} {n : Nat} {X Y Z : Nat → Int32} (h : jrv g T n X Y Z) (he : ∀ k, k < n → T k = U k) : jrv g U n X Y Z := fun i hi => by
  rw [← jPt_congr i (fun k hk => he k (by omega))]
  exact h i hi
theorem jrv.cut {g : Int} {T : Nat → Int} {n m : Nat} {X Y Z : Nat → Int32} (h : jrv g T n X Y Z) (hm : m ≤ n) : jrv g T m X Y Z := fun i hi => h i (by omega)
theorem jrv.b {g : Int} {T : Nat → Int} {n : Nat} {X Y Z : Nat → Int32} (h : jrv g T n X Y Z) : ∀ i, i ≤ n → (-(i : Int) ≤ (X i).toInt ∧ (X i).toInt ≤ i) ∧ (-(i : Int) ≤ (Y i).toInt ∧ (Y i).toInt ≤ i) ∧ (-(i : Int) ≤ (Z i).toInt ∧ (Z i).toInt ≤ i) := fun i hi => by
  rw [(h i hi).1, (h i hi).2.1, (h i hi).2.2]
  exact jPt_b g T i
theorem jrv.eq {g : Int} {T : Nat → Int} {n : Nat} {X Y Z : Nat → Int32} (h : jrv g T n X Y Z) {i j : Nat} (hi : i ≤ n) (hj : j ≤ n) : jPt g T i = jPt g T j ↔ (X i).toInt = (X j).toInt ∧ (Y i).toInt = (Y j).toInt ∧ (Z i).toInt = (Z j).toInt := by
  rw [(h i hi).1, (h i hi).2.1, (h i hi).2.2, (h j hj).1, (h j hj).2.1, (h j hj).2.2]
  exact ⟨fun q => by rw [q]; exact ⟨rfl, rfl, rfl⟩, fun ⟨a, b, c⟩ => Prod.ext a (Prod.ext b c)⟩
/-- the next place, met before or not -/
theorem jrv.next {g : Int} {T : Nat → Int} {n : Nat} {X Y Z : Nat → Int32} (h : jrv g T n X Y Z) {i : Nat} (hi : i ≤ n) : jPt g T i = jPt g T (n + 1) ↔ (X i).toInt = (X n).toInt + jsx g (T n) ∧ (Y i).toInt = (Y n).toInt + jsy g (T n) ((X n).toInt + (Y n).toInt) ∧ (Z i).toInt = (Z n).toInt + jsz g (T n) := by
  simp only [jPt]
  rw [(h i hi).1, (h i hi).2.1, (h i hi).2.2, (h n (Nat.le_refl _)).1, (h n (Nat.le_refl _)).2.1, (h n (Nat.le_refl _)).2.2]
  exact ⟨fun q => by rw [q]; exact ⟨rfl, rfl, rfl⟩, fun ⟨a, b, c⟩ => Prod.ext a (Prod.ext b c)⟩
theorem jnat {x : Int32} {n : Nat} (h0 : 0 ≤ x.toInt) (h1 : x.toInt < (n : Int)) (hn : n ≤ 1000) : ∃ a : Nat, a < n ∧ x = Int32.ofNat a := ⟨x.toInt.toNat, by omega, jI_inj.mp (by show x.toInt = (nI x.toInt.toNat).toInt; rw [nI_toInt (by omega)]; omega)⟩
/-- the axis that stands k-th in an order of axes -/
def jax (o k : Int) : Int := if k = 0 then o / 2 else if (k = 1 ↔ o % 2 = 0) then (if o / 2 = 0 then 1 else 0) else (if o / 2 = 2 then 1 else 2)
def jtc (t d : Int) : Int := jax (t / 8) (d % 3) + (if (2 < d ↔ ¬ ((t % 8) / (if d % 3 = 0 then 1 else if d % 3 = 1 then 2 else 4)) % 2 = 1) then 3 else 0)
/-- the direction that a turn gives -/
def jtn (g t d : Int) : Int := if g = 2 then d else if g = 3 then jtc t d else if t < jdir g then (if jdir g ≤ d + t then d + t - jdir g else d + t) else (if jdir g ≤ t - d then t - d - jdir g else t - d)
def jaxI (o k : Int32) : Int32 := Int32.ofInt (jax o.toInt k.toInt)
theorem jtc_b : ∀ t d : Int, 0 ≤ t → t < 48 → 0 ≤ d → d < 6 → 0 ≤ jtc t d ∧ jtc t d < 6 := by
  have h : ∀ a : Nat, a < 48 → ∀ b : Nat, b < 6 → 0 ≤ jtc (a : Int) (b : Int) ∧ jtc (a : Int) (b : Int) < 6 := by decide +kernel
  intro t d h0 h1 h2 h3
  have q := h t.toNat (by omega) d.toNat (by omega)
  rw [Int.toNat_of_nonneg h0, Int.toNat_of_nonneg h2] at q
  exact q
theorem jtn_b {g t d : Int} (hg : 0 ≤ g) (hg3 : g ≤ 3) (h0 : 0 ≤ t) (h1 : t < jtur g) (h2 : 0 ≤ d) (h3 : d < jdir g) : 0 ≤ jtn g t d ∧ jtn g t d < jdir g := by
  have hg4 : g = 0 ∨ g = 1 ∨ g = 2 ∨ g = 3 := by omega
  rcases hg4 with rfl | rfl | rfl | rfl
  · have h1 : t < 8 := h1
    have h3 : d < 4 := h3
    have e : jdir 0 = 4 := rfl
    unfold jtn
    rw [if_neg (by decide), if_neg (by decide), e]
    (repeat' split) <;> omega
  · have h1 : t < 12 := h1
    have h3 : d < 6 := h3
    have e : jdir 1 = 6 := rfl
    unfold jtn
    rw [if_neg (by decide), if_neg (by decide), e]
    (repeat' split) <;> omega
  · exact ⟨h2, h3⟩
  · exact jtc_b t d h0 h1 h2 h3
/-- the last bit -/
theorem jand1 (x : Int32) : (x &&& 1).toInt = x.toInt % 2 := by
  have h1 : (x &&& 1).toBitVec.toNat = x.toBitVec.toNat % 2 := by
    rw [Int32.toBitVec_and, BitVec.toNat_and]
    show x.toBitVec.toNat &&& 1 = _
    rw [Nat.and_one_is_mod]
  have h2 : (x &&& 1).toInt = ((x &&& 1).toBitVec.toNat : Int) := by
    show (x &&& 1).toBitVec.toInt = _
    rw [BitVec.toInt_eq_toNat_of_lt]
    rw [h1]
    omega
  have h3 : x.toInt = x.toBitVec.toInt := rfl
  rw [h2, h1, h3, BitVec.toInt_eq_toNat_cond]
  split <;> omega
theorem jtab_x : ∀ a : Nat, a < 4 → ∀ b : Nat, b < 6 → (jSv0.getD (6 * a + b) 0).toInt = jsx (a : Int) (b : Int) := by decide +kernel
theorem jtab_y : ∀ a : Nat, a < 4 → ∀ b : Nat, b < 6 → (b : Int) < jdir (a : Int) → ¬ (a = 2 ∧ b = 2) → (jSv1.getD (6 * a + b) 0).toInt = jsy (a : Int) (b : Int) 0 := by decide +kernel
theorem jsy_in {g d s : Int} (h : ¬ (g = 2 ∧ d = 2)) (h1 : d < jdir g) : jsy g d s = jsy g d 0 := by
  unfold jsy jdir at *
  (repeat' split) <;> (repeat' split at h1) <;> omega
theorem jtabx {g d i : Int32} (hg : 0 ≤ g.toInt) (hg3 : g.toInt ≤ 3) (h0 : 0 ≤ d.toInt) (h1 : d.toInt < 6) (hi : i.toInt = 6 * g.toInt + d.toInt) : (jSv0.getD i.toNatClampNeg 0).toInt = jsx g.toInt d.toInt := by
  have q := jtab_x g.toInt.toNat (by omega) d.toInt.toNat (by omega)
  rw [Int.toNat_of_nonneg hg, Int.toNat_of_nonneg h0] at q
  rw [← q]
  have e : i.toNatClampNeg = 6 * g.toInt.toNat + d.toInt.toNat := by
    show i.toInt.toNat = _
    omega
  rw [e]
theorem jtaby {g d i : Int32} (s : Int) (hg : 0 ≤ g.toInt) (hg3 : g.toInt ≤ 3) (h0 : 0 ≤ d.toInt) (h1 : d.toInt < jdir g.toInt) (hi : i.toInt = 6 * g.toInt + d.toInt) (hn : ¬ (g.toInt = 2 ∧ d.toInt = 2)) : (jSv1.getD i.toNatClampNeg 0).toInt = jsy g.toInt d.toInt s := by
  have hd := jdir_cases g.toInt
  have q := jtab_y g.toInt.toNat (by omega) d.toInt.toNat (by omega) (by rw [Int.toNat_of_nonneg hg, Int.toNat_of_nonneg h0]; exact h1) (by omega)
  rw [Int.toNat_of_nonneg hg, Int.toNat_of_nonneg h0] at q
  rw [jsy_in hn h1, ← q]
  have e : i.toNatClampNeg = 6 * g.toInt.toNat + d.toInt.toNat := by
    show i.toInt.toNat = _
    omega
  rw [e]
theorem jsy_22 (s : Int) : jsy 2 2 s = if s % 2 = 0 then 1 else -1 := rfl
theorem jmaxi {x y : Int32} {a b : Int} (hx : jEq x.toInt a) (hy : jEq y.toInt b) : a ≤ (if x < y then y else x).toInt ∧ b ≤ (if x < y then y else x).toInt ∧ ((if x < y then y else x).toInt = a ∨ (if x < y then y else x).toInt = b) := by
  cases hx
  cases hy
  split
  · rename_i h
    rw [jlt] at h
    omega
  · rename_i h
    rw [jlt] at h
    omega
theorem jmini {x y : Int32} {a b : Int} (hx : jEq x.toInt a) (hy : jEq y.toInt b) : (if y < x then y else x).toInt ≤ a ∧ (if y < x then y else x).toInt ≤ b ∧ ((if y < x then y else x).toInt = a ∨ (if y < x then y else x).toInt = b) := by
  cases hx
  cases hy
  split
  · rename_i h
    rw [jlt] at h
    omega
  · rename_i h
    rw [jlt] at h
    omega
theorem jrv.av {g : Int} {T : Nat → Int} {n : Nat} {X Y Z : Nat → Int32} (h : jrv g T (n + 1) X Y Z) : jav g T (n + 1) ↔ jav g T n ∧ ∀ j : Nat, j ≤ n → ¬ ((X j).toInt = (X (n + 1)).toInt ∧ (Y j).toInt = (Y (n + 1)).toInt ∧ (Z j).toInt = (Z (n + 1)).toInt) := by
  rw [jav_succ]
  exact ⟨fun ⟨a, b⟩ => ⟨a, fun j hj q => b j hj ((h.eq (by omega) (Nat.le_refl _)).mpr q)⟩, fun ⟨a, b⟩ => ⟨a, fun j hj q => b j hj ((h.eq (by omega) (Nat.le_refl _)).mp q)⟩⟩
/-! what becomes of a row of directions -/
def jTs (T : Nat → Int) (n : Nat) (d : Int) : Nat → Int := fun q => if q < n then T q else d
def jTp (g t k : Int) (T : Nat → Int) : Nat → Int := fun q => if (q : Int) < k then T q else jtn g t (T q)
def jTj (T : Nat → Int) (n : Nat) (U : Nat → Int) : Nat → Int := fun q => if q < n then T q else U (q - n)
def jTb (g : Int) (T : Nat → Int) (n : Nat) : Nat → Int := fun q => jopp g (T (n - 1 - q))
theorem jTs_row {R S : Nat → Int32} {b n : Nat} {d : Int32} (h : ∀ j : Nat, j < n → R j = S (b + j)) (hd : R n = d) : ∀ k : Nat, k < n + 1 → (R k).toInt = jTs (fun q => (S (b + q)).toInt) n d.toInt k := fun k hk => by
  unfold jTs
  by_cases c : k < n
  · rw [if_pos c, h k c]
  · rw [if_neg c, show k = n by omega, hd]
theorem jav_not {g : Int} {T : Nat → Int} {n : Nat} (h : jav g T n) (hn : ¬ jav g T (n + 1)) : ∃ i : Nat, i ≤ n ∧ jPt g T i = jPt g T (n + 1) := by
  apply Classical.byContradiction
  intro q
  exact hn (jav_succ.mpr ⟨h, fun i hi e => q ⟨i, hi, e⟩⟩)
