theorem jI_inj {x y : Int32} : x.toInt = y.toInt ↔ x = y := Int32.toInt_inj
theorem jI_zero {x : Int32} : x = 0 ↔ x.toInt = 0 := ⟨fun h => by rw [h]; rfl, fun h => Int32.toInt_inj.mp (by rw [h]; rfl)⟩
/-- hidden from arithmetic until it is asked for -/
def jEq (a b : Int) : Prop := a = b
theorem jEq.eq {a b : Int} (h : jEq a b) : a = b := h
theorem jEq.rf {a : Int} : jEq a a := rfl
def jIf (y : Int32) (c : Int) (P : Prop) : Prop := y.toInt = c → P
def jImp (P R : Prop) : Prop := P → R
theorem jIf.of {y : Int32} {c : Int} {P : Prop} (h : jIf y c P) (h2 : y.toInt = c) : P := h h2
theorem jImp.of {P R : Prop} (h : jImp P R) (h2 : P) : R := h h2
def jfL (V : jH) (a ci k : Nat) (y : Int64) : Prop := ∃ fs : List Value, V a = some (.inr (ci, fs)) ∧ fs[k]? = some (.long y)
theorem jfL.get {V : jH} {a ci k : Nat} {y : Int64} {fs : List Value} (h : jfL V a ci k y) (hO : V a = some (.inr (ci, fs))) : fs[k]? = some (.long y) := by
  obtain ⟨fs2, h1, h2⟩ := h
  cases h1.symm.trans hO
  exact h2
theorem jfL.keep {E : List jKd} {V V' : jH} {a ci k : Nat} {y : Int64} (h : jfL V a ci k y) (he : jeff E V V') (hn : (.inr ci : jKd) ∉ E) : jfL V' a ci k y := by
  obtain ⟨fs, h1, h2⟩ := h
  exact ⟨fs, he.2 _ _ h1 hn, h2⟩
theorem jfI.get {V : jH} {a ci k : Nat} {y : Int32} {fs : List Value} (h : jfI V a ci k y) (hO : V a = some (.inr (ci, fs))) : fs[k]? = some (.int y) := by
  obtain ⟨fs2, h1, h2⟩ := h
  cases h1.symm.trans hO
  exact h2
theorem jfR.get {V : jH} {a ci k : Nat} {b : Nat} {fs : List Value} (h : jfR V a ci k b) (hO : V a = some (.inr (ci, fs))) : fs[k]? = some (.ref b) := by
  obtain ⟨fs2, h1, h2⟩ := h
  cases h1.symm.trans hO
  exact h2
theorem jext.keep {V V' : jH} (h : jext V V') {a ci : Nat} {fs : List Value} (hV : V a = some (.inr (ci, fs))) : ∃ fs' : List Value, V' a = some (.inr (ci, fs')) ∧ ∀ k b : Nat, fs[k]? = some (.ref b) → fs'[k]? = some (.ref b) := by
  obtain ⟨e', h1, h2⟩ := h a _ hV
  match e', h1, h2 with
  | .inr (c, fs'), h1, h2 =>
    have h3 : c = ci := h2.1
    subst h3
    exact ⟨fs', h1, h2.2⟩
theorem WT_rngI {p : Nat → Prop} {V : jH} {t a n : Nat} {f : Nat → Int32} {r : Int × Int} (hW : WTx p V) (hp : ¬ p a) (hc : jAc t = .inl r) (hA : V a = some (.inl (t, n, .inl f))) : n < 2 ^ 31 ∧ ∀ j, j < n → r.1 ≤ (f j).toInt ∧ (f j).toInt ≤ r.2 := by
  obtain ⟨n2, f2, h1, h2, h3, h4⟩ := WT_arrI hW hp hc ⟨_, hA, rfl⟩
  cases hA.symm.trans h1
  exact ⟨h2, h4⟩
theorem jz_div {x y : Int32} (hx : 0 ≤ x.toInt) (hy : 0 < y.toInt) : (x / y).toInt = x.toInt / y.toInt := by
  have h1 := j_rng x
  have h2 := j_rng y
  have h3 : x.toInt / y.toInt ≤ x.toInt := Int.ediv_le_self _ hx
  have h4 : 0 ≤ x.toInt / y.toInt := Int.ediv_nonneg hx (by omega)
  rw [Int32.toInt_div, Int.tdiv_eq_ediv_of_nonneg hx, Int.bmod_eq_of_le (by omega) (by omega)]
theorem jz_rem {x y : Int32} (hx : 0 ≤ x.toInt) (hy : 0 < y.toInt) : (x - x / y * y).toInt = x.toInt % y.toInt := by
  have h1 := jz_div hx hy
  have h2 := Int.emod_def x.toInt y.toInt
  have h3 := Int.emod_nonneg x.toInt (show y.toInt ≠ 0 by omega)
  have h4 := j_rng x
  have h5 : 0 ≤ (x / y).toInt * y.toInt := by rw [h1]; exact Int.mul_nonneg (Int.ediv_nonneg hx (by omega)) (by omega)
  have h6 : (x / y).toInt * y.toInt = y.toInt * (x.toInt / y.toInt) := by rw [h1, Int.mul_comm]
  have h7 := j_mul (x := x / y) (y := y) (by omega) (by omega)
  have h8 := j_sub (x := x) (y := x / y * y) (by omega) (by omega)
  omega
theorem jok_rngI {V : jH} {cs : List jFC} {fs : List Value} {k : Nat} {r : Int × Int} {x : Int32} (h : jokO V cs fs) (hc : cs[k]? = some (.inl r)) (hF : fs[k]? = some (.int x)) : r.1 ≤ x.toInt ∧ x.toInt ≤ r.2 := by
  obtain ⟨v, h1, y, rfl, h2, h3⟩ := h.2 k _ hc
  cases hF.symm.trans h1
  exact ⟨h2, h3⟩
/-- how many of the first n places hold another number than c -/
def jcn (c : Int) (F : Nat → Int32) : Nat → Nat
  | 0 => 0
  | n + 1 => jcn c F n + (if (F n).toInt = c then 0 else 1)
theorem jcn_le {c : Int} {F : Nat → Int32} : ∀ n : Nat, jcn c F n ≤ n
  | 0 => Nat.le_refl _
  | n + 1 => by
    have h := jcn_le (c := c) (F := F) n
    unfold jcn
    split <;> omega
theorem jcn_lt {c : Int} {F : Nat → Int32} {k : Nat} (hF : (F k).toInt = c) : ∀ n : Nat, k < n → jcn c F n < n
  | 0, h => absurd h (Nat.not_lt_zero _)
  | n + 1, h => by
    have h1 := jcn_le (c := c) (F := F) n
    unfold jcn
    by_cases hk : k = n
    · subst hk
      rw [if_pos hF]
      omega
    · have h2 := jcn_lt hF n (by omega)
      split <;> omega
theorem jcn_congr {c : Int} {F G : Nat → Int32} : ∀ n : Nat, (∀ k, k < n → G k = F k) → jcn c G n = jcn c F n
  | 0, _ => rfl
  | n + 1, h => by
    have h1 := jcn_congr (c := c) n (fun k hk => h k (by omega))
    unfold jcn
    rw [h1, h n (by omega)]
theorem jcn_up {c : Int} {F G : Nat → Int32} {k : Nat} (hF : (F k).toInt = c) (hG : ¬ (G k).toInt = c) (ho : ∀ j, j ≠ k → G j = F j) : ∀ n : Nat, k < n → jcn c G n = jcn c F n + 1
  | 0, h => absurd h (Nat.not_lt_zero _)
  | n + 1, h => by
    unfold jcn
    by_cases hk : k = n
    · subst hk
      rw [jcn_congr k (fun j hj => ho j (by omega)), if_pos hF, if_neg hG]
    · rw [jcn_up hF hG ho n (by omega), ho n (by omega)]
      omega
theorem jcn_dn {c : Int} {F G : Nat → Int32} {k n : Nat} (hF : ¬ (F k).toInt = c) (hG : (G k).toInt = c) (ho : ∀ j, j ≠ k → G j = F j) (h : k < n) : jcn c F n = jcn c G n + 1 := jcn_up hG hF (fun j hj => (ho j hj).symm) n h
theorem jcn_zero {c : Int} {F : Nat → Int32} : ∀ n : Nat, (∀ k, k < n → (F k).toInt = c) → jcn c F n = 0
  | 0, _ => rfl
  | n + 1, h => by
    unfold jcn
    rw [jcn_zero n (fun k hk => h k (by omega)), if_pos (h n (by omega))]
theorem jcn_one {c : Int} {F : Nat → Int32} {n : Nat} (h0 : ¬ (F 0).toInt = c) (h : ∀ k, 0 < k → k < n → (F k).toInt = c) (hn : 0 < n) : jcn c F n = 1 := by
  induction n with
  | zero => exact absurd hn (Nat.lt_irrefl _)
  | succ n ih =>
    unfold jcn
    by_cases hz : n = 0
    · subst hz
      rw [if_neg h0]
      rfl
    · rw [ih (fun k h1 h2 => h k h1 (by omega)) (by omega), if_pos (h n (by omega) (by omega))]
theorem jcn_ge {c : Int} {F G : Nat → Int32} {k : Nat} (hG : ¬ (G k).toInt = c) (ho : ∀ j, j ≠ k → G j = F j) : ∀ n : Nat, jcn c F n ≤ jcn c G n
  | 0 => Nat.le_refl _
  | n + 1 => by
    have ih := jcn_ge hG ho n
    unfold jcn
    by_cases hk : n = k
    · subst hk
      rw [if_neg hG]
      split <;> omega
    · rw [ho n hk]
      split <;> omega
/-- powers -/
def jpw (d : Int) : Nat → Int
  | 0 => 1
  | n + 1 => d * jpw d n
theorem jpw_pos {d : Int} (h : 1 ≤ d) : ∀ n : Nat, 1 ≤ jpw d n
  | 0 => Int.le_refl _
  | n + 1 => by
    have h1 := jpw_pos h n
    have h2 := Int.mul_le_mul_of_nonneg_right h (show 0 ≤ jpw d n by omega)
    show 1 ≤ d * jpw d n
    omega
theorem jpw_mono {d : Int} (h : 1 ≤ d) {a b : Nat} (hab : a ≤ b) : jpw d a ≤ jpw d b := by
  induction b with
  | zero => rw [show a = 0 by omega]; exact Int.le_refl _
  | succ b ih =>
    by_cases hq : a = b + 1
    · rw [hq]; exact Int.le_refl _
    · have h1 := ih (by omega)
      have h2 := jpw_pos h b
      have h3 := Int.mul_le_mul_of_nonneg_right h (show 0 ≤ jpw d b by omega)
      show jpw d a ≤ d * jpw d b
      omega
theorem jpw_le6 {d : Int} (h : 1 ≤ d) (h6 : d ≤ 6) {n : Nat} (hn : n ≤ 7) : jpw d n ≤ 279936 := by
  have h1 := jpw_mono h hn
  have h2 : ∀ n : Nat, jpw d n ≤ jpw 6 n := by
    intro n
    induction n with
    | zero => exact Int.le_refl _
    | succ n ih =>
      have h3 := Int.mul_le_mul_of_nonneg_left ih (show 0 ≤ d by omega)
      have h4 := Int.mul_le_mul_of_nonneg_right h6 (show 0 ≤ jpw 6 n by have := jpw_pos (d := 6) (by omega) n; omega)
      show d * jpw d n ≤ 6 * jpw 6 n
      omega
  have h3 := h2 7
  have h4 : jpw 6 7 = 279936 := by decide
  omega
theorem jto_step {d a P r : Int} (h1 : 0 ≤ a) (h2 : a < P) (h3 : 0 ≤ r) (h4 : r < d) : 0 ≤ d * a ∧ 0 ≤ d * a + r ∧ d * a + r < d * P := by
  have h5 := Int.mul_nonneg (show 0 ≤ d by omega) h1
  have h6 := Int.mul_le_mul_of_nonneg_left (show a + 1 ≤ P by omega) (show 0 ≤ d by omega)
  rw [Int.mul_add, Int.mul_one] at h6
  omega
/-- a place's number on a board -/
theorem jcell_zero {x y w : Int} (hx : 0 ≤ x) (hw : 0 < w) (hy : 0 ≤ y) : x + w * y = 0 ↔ x = 0 ∧ y = 0 := by
  constructor
  · intro h
    have h1 := Int.mul_nonneg (show 0 ≤ w by omega) hy
    by_cases hy0 : y = 0
    · subst hy0
      omega
    · have h2 := Int.mul_le_mul_of_nonneg_left (show 1 ≤ y by omega) (show 0 ≤ w by omega)
      omega
  · rintro ⟨rfl, rfl⟩
    omega
theorem jcell_last {x y w h : Int} (hx : 0 ≤ x) (hxw : x < w) (hy : 0 ≤ y) (hyh : y < h) : x + w * y = w * h - 1 ↔ x = w - 1 ∧ y = h - 1 := by
  have h1 : w * (h - 1) = w * h - w := by rw [Int.mul_sub, Int.mul_one]
  constructor
  · intro q
    by_cases hy1 : y = h - 1
    · subst hy1
      omega
    · have h2 := Int.mul_le_mul_of_nonneg_left (show y + 1 ≤ h - 1 by omega) (show 0 ≤ w by omega)
      rw [Int.mul_add, Int.mul_one] at h2
      omega
  · rintro ⟨rfl, rfl⟩
    omega
def jdir (g : Int) : Int := if g = 0 then 4 else if g = 2 then 3 else 6
def jtur (g : Int) : Int := if g = 0 then 8 else if g = 1 then 12 else if g = 3 then 48 else 0
theorem jdir_cases (g : Int) : (g = 0 ∧ jdir g = 4) ∨ (g = 2 ∧ jdir g = 3) ∨ (¬ g = 0 ∧ ¬ g = 2 ∧ jdir g = 6) := by
  unfold jdir
  by_cases h : g = 0
  · exact Or.inl ⟨h, by rw [if_pos h]⟩
  by_cases h2 : g = 2
  · exact Or.inr (Or.inl ⟨h2, by rw [if_neg h, if_pos h2]⟩)
  · exact Or.inr (Or.inr ⟨h, h2, by rw [if_neg h, if_neg h2]⟩)
theorem jtur_cases (g : Int) : (g = 0 ∧ jtur g = 8) ∨ (g = 1 ∧ jtur g = 12) ∨ (g = 3 ∧ jtur g = 48) ∨ (¬ g = 0 ∧ ¬ g = 1 ∧ ¬ g = 3 ∧ jtur g = 0) := by
  unfold jtur
  by_cases h : g = 0
  · exact Or.inl ⟨h, by rw [if_pos h]⟩
  by_cases h1 : g = 1
  · exact Or.inr (Or.inl ⟨h1, by rw [if_neg h, if_pos h1]⟩)
  by_cases h3 : g = 3
  · exact Or.inr (Or.inr (Or.inl ⟨h3, by rw [if_neg h, if_neg h1, if_pos h3]⟩))
  · exact Or.inr (Or.inr (Or.inr ⟨h, h1, h3, by rw [if_neg h, if_neg h1, if_neg h3]⟩))
theorem jsw6 (x : Int32) : x = 0 ∨ x = 1 ∨ x = 2 ∨ x = 3 ∨ x = 4 ∨ x = 5 ∨ x = 6 ∨ x.toInt < 0 ∨ 6 < x.toInt := by
  by_cases h0 : x.toInt < 0
  · exact Or.inr (Or.inr (Or.inr (Or.inr (Or.inr (Or.inr (Or.inr (Or.inl h0)))))))
  by_cases h1 : 6 < x.toInt
  · exact Or.inr (Or.inr (Or.inr (Or.inr (Or.inr (Or.inr (Or.inr (Or.inr h1)))))))
  rcases (show x.toInt = 0 ∨ x.toInt = 1 ∨ x.toInt = 2 ∨ x.toInt = 3 ∨ x.toInt = 4 ∨ x.toInt = 5 ∨ x.toInt = 6 by omega) with h | h | h | h | h | h | h
  · exact Or.inl (Int32.toInt_inj.mp (by rw [h]; rfl))
  · exact Or.inr (Or.inl (Int32.toInt_inj.mp (by rw [h]; rfl)))
  · exact Or.inr (Or.inr (Or.inl (Int32.toInt_inj.mp (by rw [h]; rfl))))
  · exact Or.inr (Or.inr (Or.inr (Or.inl (Int32.toInt_inj.mp (by rw [h]; rfl)))))
  · exact Or.inr (Or.inr (Or.inr (Or.inr (Or.inl (Int32.toInt_inj.mp (by rw [h]; rfl))))))
  · exact Or.inr (Or.inr (Or.inr (Or.inr (Or.inr (Or.inl (Int32.toInt_inj.mp (by rw [h]; rfl)))))))
  · exact Or.inr (Or.inr (Or.inr (Or.inr (Or.inr (Or.inr (Or.inl (Int32.toInt_inj.mp (by rw [h]; rfl))))))))
/-- the arrays of role 9: no place becomes -1 -/
def jle9 (V V' : jH) : Prop := ∀ (a : Nat) (h : Nat → Int32), V a = some (.inl (9, 7, .inl h)) → ∃ h' : Nat → Int32, V' a = some (.inl (9, 7, .inl h')) ∧ jcn (-1) h 7 ≤ jcn (-1) h' 7
theorem jle9.rf {V : jH} : jle9 V V := fun _ h q => ⟨h, q, Nat.le_refl _⟩
theorem jle9.trans {V1 V2 V3 : jH} (h1 : jle9 V1 V2) (h2 : jle9 V2 V3) : jle9 V1 V3 := fun a h q => by
  obtain ⟨h', q1, l1⟩ := h1 a h q
  obtain ⟨h3, q2, l2⟩ := h2 a h' q1
  exact ⟨h3, q2, Nat.le_trans l1 l2⟩
theorem jle9.of {E : List jKd} {V V' : jH} (h : jeff E V V') (h9 : (.inl 9 : jKd) ∉ E) : jle9 V V' := fun a f q => ⟨f, h.2 a _ q h9, Nat.le_refl _⟩
theorem jfI.keep {E : List jKd} {V V' : jH} {a ci k : Nat} {y : Int32} (h : jfI V a ci k y) (he : jeff E V V') (hn : (.inr ci : jKd) ∉ E) : jfI V' a ci k y := by
  obtain ⟨fs, h1, h2⟩ := h
  exact ⟨fs, he.2 _ _ h1 hn, h2⟩
theorem jfI.kp {c : Nat} {ks : List Nat} {V V' : jH} {a k : Nat} {y : Int32} (h : jfI V a c k y) (hk : jkc c ks V V') (hm : k ∈ ks) : jfI V' a c k y := by
  obtain ⟨fs, h1, h2⟩ := h
  obtain ⟨fs', h3, h4⟩ := hk a fs h1
  exact ⟨fs', h3, (h4 k hm).trans h2⟩
/-- a comparison of longs, hidden from arithmetic -/
def jLc (z : Int32) (x y : Int64) : Prop := z.toInt = 0 ↔ x = y
theorem jLc_of {x y : Int64} : jLc (lg_cmp x y) x y := jI_zero.symm.trans (lg_cmp_eq x y)
/-- bits of a long -/
def jbt (v : Int64) (n : Nat) : Bool := v.toBitVec.getLsbD n
/-- the board of a new object: 2 by 2, no hole -/
def jpl0 (V : jH) (pl : Nat) : Prop := ∃ (w h : Int32) (op : Int64), jfI V pl 0 1 w ∧ jfI V pl 0 2 h ∧ jfL V pl 0 3 op ∧ w.toInt = 2 ∧ h.toInt = 2 ∧ ∀ n : Nat, jbt op n = true ↔ ∃ x y : Nat, ((x : Int) < 2 ∧ (y : Int) < 2) ∧ n = 9 + x + 8 * y
theorem jpl0.keep {E : List jKd} {V V' : jH} {pl : Nat} (h : jpl0 V pl) (he : jeff E V V') (hn : (.inr 0 : jKd) ∉ E) : jpl0 V' pl := by
  obtain ⟨w, h, op, q1, q2, q3, q4⟩ := h
  exact ⟨w, h, op, q1.keep he hn, q2.keep he hn, q3.keep he hn, q4⟩
def jpx (V : jH) (x : Nat) : Prop := ∃ (xs : List Value) (pl : Nat), V x = some (.inr (4, xs)) ∧ xs[6]? = some (.ref pl) ∧ jpl0 V pl
theorem jpx.keep {E : List jKd} {V V' : jH} {x : Nat} (h : jpx V x) (he : jeff E V V') (h0 : (.inr 0 : jKd) ∉ E) (h4 : (.inr 4 : jKd) ∉ E) : jpx V' x := by
  obtain ⟨xs, pl, q1, q2, q3⟩ := h
  exact ⟨xs, pl, he.2 _ _ q1 h4, q2, q3.keep he h0⟩
def jmx (V : jH) (m : Nat) : Prop := ∃ (ms : List Value) (rh : Nat), V m = some (.inr (5, ms)) ∧ ms[25]? = some (.ref rh) ∧ V rh = some (.inl (43, 36, .inl (fun _ => 0)))
theorem jbt_tab : ∀ j : Fin 64, ((1 : Int64) <<< ((Int32.ofNat j.val).toInt64 &&& 63)).toBitVec = BitVec.twoPow 64 j.val := by decide +kernel
theorem jbt_shl {k : Int32} (h0 : 0 ≤ k.toInt) (h1 : k.toInt < 64) (n : Nat) : jbt ((1 : Int64) <<< (k.toInt64 &&& 63)) n = decide ((n : Int) = k.toInt) := by
  have h2 : k = Int32.ofNat k.toInt.toNat := by
    apply Int32.toInt_inj.mp
    rw [jn_len (n := k.toInt.toNat) (by omega)]
    omega
  have h3 := jbt_tab ⟨k.toInt.toNat, by omega⟩
  dsimp only at h3
  rw [← h2] at h3
  unfold jbt
  rw [h3, BitVec.getLsbD_twoPow]
  by_cases hn : n = k.toInt.toNat
  · subst hn
    simp only [decide_true, Bool.and_true]
    rw [decide_eq_true (by omega), decide_eq_true (by omega)]
  · rw [decide_eq_false (p := k.toInt.toNat = n) (fun h => hn h.symm), Bool.and_false]
    exact (decide_eq_false (by omega)).symm
theorem jbt_and (x y : Int64) (n : Nat) : jbt (x &&& y) n = (jbt x n && jbt y n) := by
  unfold jbt
  rw [Int64.toBitVec_and, BitVec.getLsbD_and]
theorem jbt_or (x y : Int64) (n : Nat) : jbt (x ||| y) n = (jbt x n || jbt y n) := by
  unfold jbt
  rw [Int64.toBitVec_or, BitVec.getLsbD_or]
theorem jbt_xor (x y : Int64) (n : Nat) : jbt (x ^^^ y) n = (jbt x n ^^ jbt y n) := by
  unfold jbt
  rw [Int64.toBitVec_xor, BitVec.getLsbD_xor]
theorem jbt_zero (n : Nat) : jbt 0 n = false := by
  unfold jbt
  exact BitVec.getLsbD_zero
theorem jbt_ext {x y : Int64} (h : ∀ n, jbt x n = jbt y n) : x = y := by
  apply Int64.toBitVec_inj.mp
  exact BitVec.eq_of_getLsbD_eq (fun i _ => h i)
theorem jbt_one {op b : Int64} {k : Nat} (hb : ∀ n, jbt b n = decide (n = k)) : (op &&& b) = 0 ↔ jbt op k = false := by
  constructor
  · intro h
    have h1 := jbt_and op b k
    rw [h, jbt_zero, hb k, decide_eq_true rfl, Bool.and_true] at h1
    exact h1.symm
  · intro h
    refine jbt_ext (fun n => ?_)
    rw [jbt_and, jbt_zero, hb n]
    by_cases hn : n = k
    · subst hn
      rw [h]
      rfl
    · rw [decide_eq_false hn, Bool.and_false]
theorem jfL.kp {c : Nat} {ks : List Nat} {V V' : jH} {a k : Nat} {y : Int64} (h : jfL V a c k y) (hk : jkc c ks V V') (hm : k ∈ ks) : jfL V' a c k y := by
  obtain ⟨fs, h1, h2⟩ := h
  obtain ⟨fs', h3, h4⟩ := hk a fs h1
  exact ⟨fs', h3, (h4 k hm).trans h2⟩
section JZ
variable {tS : jTS} {M : jM} {d pc : Nat} {ls : List (Option Value)} {st : List Value} {V : jH} {kc ks : Nat} {Q : Option Value → jH → Prop}
theorem Jz_iconst {n : Int} (c : Int) (hd : decode M.2.1 pc = .ok (.iconst n, 1)) (hc : (Int32.ofInt n).toInt = c) (kk : ∀ z : Int32, jEq z.toInt c → J tS M d (pc + 1) ls (.int z :: st) V kc ks Q) : J tS M d pc ls st V kc ks Q := J_iconst hd rfl (kk _ hc)
theorem Jz_bipush {n : Int} (c : Int) (hd : decode M.2.1 pc = .ok (.bipush n, 2)) (hc : ((Int8.ofInt n).toInt32).toInt = c) (kk : ∀ z : Int32, jEq z.toInt c → J tS M d (pc + 2) ls (.int z :: st) V kc ks Q) : J tS M d pc ls st V kc ks Q := J_bipush hd rfl (kk _ hc)
theorem Jz_sipush {n : Int} (c : Int) (hd : decode M.2.1 pc = .ok (.sipush n, 3)) (hc : ((Int16.ofInt n).toInt32).toInt = c) (kk : ∀ z : Int32, jEq z.toInt c → J tS M d (pc + 3) ls (.int z :: st) V kc ks Q) : J tS M d pc ls st V kc ks Q := J_sipush hd rfl (kk _ hc)
theorem Jz_ldc {index : Nat} {v : Int32} (c : Int) (hw : Cond.constant M.1.cls index v ∈ jWG) (hd : decode M.2.1 pc = .ok (.ldc index, 2)) (hc : v.toInt = c) (kk : ∀ z : Int32, jEq z.toInt c → J tS M d (pc + 2) ls (.int z :: st) V kc ks Q) : J tS M d pc ls st V kc ks Q := J_ldc hw hd (kk _ hc)
theorem Jz_iadd {x y : Int32} {A B : Int} (hx : jEq x.toInt A) (hy : jEq y.toInt B) (hd : decode M.2.1 pc = .ok (.iadd, 1)) (h1 : -2147483648 ≤ A + B) (h2 : A + B ≤ 2147483647) (kk : ∀ z : Int32, jEq z.toInt (A + B) → J tS M d (pc + 1) ls (.int z :: st) V kc ks Q) : J tS M d pc ls (.int y :: .int x :: st) V kc ks Q := by
  cases hx
  cases hy
  exact J_iadd hd (kk _ (j_add h1 h2))
theorem Jz_isub {x y : Int32} {A B : Int} (hx : jEq x.toInt A) (hy : jEq y.toInt B) (hd : decode M.2.1 pc = .ok (.isub, 1)) (h1 : -2147483648 ≤ A - B) (h2 : A - B ≤ 2147483647) (kk : ∀ z : Int32, jEq z.toInt (A - B) → J tS M d (pc + 1) ls (.int z :: st) V kc ks Q) : J tS M d pc ls (.int y :: .int x :: st) V kc ks Q := by
  cases hx
  cases hy
  exact J_isub hd (kk _ (j_sub h1 h2))
theorem Jz_imul {x y : Int32} {A B : Int} (hx : jEq x.toInt A) (hy : jEq y.toInt B) (hd : decode M.2.1 pc = .ok (.imul, 1)) (h1 : -2147483648 ≤ A * B) (h2 : A * B ≤ 2147483647) (kk : ∀ z : Int32, jEq z.toInt (A * B) → J tS M d (pc + 1) ls (.int z :: st) V kc ks Q) : J tS M d pc ls (.int y :: .int x :: st) V kc ks Q := by
  cases hx
  cases hy
  exact J_imul hd (kk _ (j_mul h1 h2))
theorem Jz_iaddw {x y : Int32} (hd : decode M.2.1 pc = .ok (.iadd, 1)) (kk : ∀ z : Int32, J tS M d (pc + 1) ls (.int z :: st) V kc ks Q) : J tS M d pc ls (.int y :: .int x :: st) V kc ks Q := J_iadd hd (kk _)
theorem Jz_isubw {x y : Int32} (hd : decode M.2.1 pc = .ok (.isub, 1)) (kk : ∀ z : Int32, J tS M d (pc + 1) ls (.int z :: st) V kc ks Q) : J tS M d pc ls (.int y :: .int x :: st) V kc ks Q := J_isub hd (kk _)
theorem Jz_imulw {x y : Int32} (hd : decode M.2.1 pc = .ok (.imul, 1)) (kk : ∀ z : Int32, J tS M d (pc + 1) ls (.int z :: st) V kc ks Q) : J tS M d pc ls (.int y :: .int x :: st) V kc ks Q := J_imul hd (kk _)
theorem Jz_iandw {x y : Int32} (hd : decode M.2.1 pc = .ok (.iand, 1)) (kk : ∀ z : Int32, J tS M d (pc + 1) ls (.int z :: st) V kc ks Q) : J tS M d pc ls (.int y :: .int x :: st) V kc ks Q := J_iand hd (kk _)
theorem Jz_iorw {x y : Int32} (hd : decode M.2.1 pc = .ok (.ior, 1)) (kk : ∀ z : Int32, J tS M d (pc + 1) ls (.int z :: st) V kc ks Q) : J tS M d pc ls (.int y :: .int x :: st) V kc ks Q := J_ior hd (kk _)
theorem Jz_ixorw {x y : Int32} (hd : decode M.2.1 pc = .ok (.ixor, 1)) (kk : ∀ z : Int32, J tS M d (pc + 1) ls (.int z :: st) V kc ks Q) : J tS M d pc ls (.int y :: .int x :: st) V kc ks Q := J_ixor hd (kk _)
theorem Jz_ishlw {x y : Int32} (hd : decode M.2.1 pc = .ok (.ishl, 1)) (kk : ∀ z : Int32, J tS M d (pc + 1) ls (.int z :: st) V kc ks Q) : J tS M d pc ls (.int y :: .int x :: st) V kc ks Q := J_ishl hd (kk _)
theorem Jz_ishrw {x y : Int32} (hd : decode M.2.1 pc = .ok (.ishr, 1)) (kk : ∀ z : Int32, J tS M d (pc + 1) ls (.int z :: st) V kc ks Q) : J tS M d pc ls (.int y :: .int x :: st) V kc ks Q := J_ishr hd (kk _)
theorem Jz_iushrw {x y : Int32} (hd : decode M.2.1 pc = .ok (.iushr, 1)) (kk : ∀ z : Int32, J tS M d (pc + 1) ls (.int z :: st) V kc ks Q) : J tS M d pc ls (.int y :: .int x :: st) V kc ks Q := J_iushr hd rfl (kk _)
theorem Jz_imulB {x y : Int32} {A B : Int} (C : Int) (hx : jEq x.toInt A) (hy : jEq y.toInt B) (hd : decode M.2.1 pc = .ok (.imul, 1)) (h0 : 0 ≤ A) (h1 : 0 ≤ B) (hB : B ≤ C) (h2 : C * A ≤ 2147483647) (kk : ∀ z : Int32, 0 ≤ z.toInt → z.toInt ≤ C * A → J tS M d (pc + 1) ls (.int z :: st) V kc ks Q) : J tS M d pc ls (.int y :: .int x :: st) V kc ks Q := by
  cases hx
  cases hy
  have h3 : x.toInt * y.toInt ≤ C * x.toInt := by rw [Int.mul_comm C]; exact Int.mul_le_mul_of_nonneg_left hB h0
  have h4 : 0 ≤ x.toInt * y.toInt := Int.mul_nonneg h0 h1
  have h5 := j_mul (x := x) (y := y) (by omega) (by omega)
  exact J_imul hd (kk _ (by omega) (by omega))
theorem Jz_imulM {x y : Int32} {A B : Int} (C : Int) (hx : jEq x.toInt A) (hy : jEq y.toInt B) (hd : decode M.2.1 pc = .ok (.imul, 1)) (h0 : 0 ≤ A) (h1 : 1 ≤ B) (hB : B ≤ C) (h2 : C * A ≤ 2147483647) (kk : ∀ z : Int32, A ≤ z.toInt → z.toInt ≤ C * A → J tS M d (pc + 1) ls (.int z :: st) V kc ks Q) : J tS M d pc ls (.int y :: .int x :: st) V kc ks Q := by
  cases hx
  cases hy
  have h3 : x.toInt * y.toInt ≤ C * x.toInt := by rw [Int.mul_comm C]; exact Int.mul_le_mul_of_nonneg_left hB h0
  have h4 : x.toInt * 1 ≤ x.toInt * y.toInt := Int.mul_le_mul_of_nonneg_left h1 h0
  have h5 := j_mul (x := x) (y := y) (by omega) (by omega)
  exact J_imul hd (kk _ (by omega) (by omega))
theorem Jz_idivw {x y : Int32} {B : Int} (hy : jEq y.toInt B) (hd : decode M.2.1 pc = .ok (.idiv, 1)) (hn : B ≠ 0) (kk : ∀ z : Int32, J tS M d (pc + 1) ls (.int z :: st) V kc ks Q) : J tS M d pc ls (.int y :: .int x :: st) V kc ks Q := by
  cases hy
  exact J_idiv hd (fun h => hn (jI_zero.mp h)) (kk _)
theorem Jz_iremw {x y : Int32} {B : Int} (hy : jEq y.toInt B) (hd : decode M.2.1 pc = .ok (.irem, 1)) (hn : B ≠ 0) (kk : ∀ z : Int32, J tS M d (pc + 1) ls (.int z :: st) V kc ks Q) : J tS M d pc ls (.int y :: .int x :: st) V kc ks Q := by
  cases hy
  exact J_irem hd (fun h => hn (jI_zero.mp h)) (kk _)
theorem Jz_idiv {x y : Int32} {A B : Int} (hx : jEq x.toInt A) (hy : jEq y.toInt B) (hd : decode M.2.1 pc = .ok (.idiv, 1)) (h1 : 0 < B) (h0 : 0 ≤ A) (kk : ∀ z : Int32, 0 ≤ z.toInt → z.toInt ≤ A → J tS M d (pc + 1) ls (.int z :: st) V kc ks Q) : J tS M d pc ls (.int y :: .int x :: st) V kc ks Q := by
  cases hx
  cases hy
  have h2 := jz_div h0 h1
  have h3 : x.toInt / y.toInt ≤ x.toInt := Int.ediv_le_self _ h0
  have h4 : 0 ≤ x.toInt / y.toInt := Int.ediv_nonneg h0 (by omega)
  exact J_idiv hd (fun h => by rw [jI_zero] at h; omega) (kk _ (by omega) (by omega))
theorem Jz_idivC {x y : Int32} {A B : Int} (hx : jEq x.toInt A) (hy : jEq y.toInt B) (hd : decode M.2.1 pc = .ok (.idiv, 1)) (h1 : 0 < B) (h0 : 0 ≤ A) (kk : ∀ z : Int32, jEq z.toInt (A / B) → J tS M d (pc + 1) ls (.int z :: st) V kc ks Q) : J tS M d pc ls (.int y :: .int x :: st) V kc ks Q := by
  cases hx
  cases hy
  exact J_idiv hd (fun h => by rw [jI_zero] at h; omega) (kk _ (jz_div h0 h1))
theorem Jz_irem {x y : Int32} {A B : Int} (hx : jEq x.toInt A) (hy : jEq y.toInt B) (hd : decode M.2.1 pc = .ok (.irem, 1)) (h1 : 0 < B) (h0 : 0 ≤ A) (kk : ∀ z : Int32, 0 ≤ z.toInt → z.toInt < B → J tS M d (pc + 1) ls (.int z :: st) V kc ks Q) : J tS M d pc ls (.int y :: .int x :: st) V kc ks Q := by
  cases hx
  cases hy
  refine J_irem hd (fun h => by rw [jI_zero] at h; omega) (kk _ ?_ ?_)
  · rw [jz_rem h0 h1]; exact Int.emod_nonneg _ (by omega)
  · rw [jz_rem h0 h1]; exact Int.emod_lt_of_pos _ h1
theorem Jz_inegw {x : Int32} (hd : decode M.2.1 pc = .ok (.ineg, 1)) (kk : ∀ z : Int32, J tS M d (pc + 1) ls (.int z :: st) V kc ks Q) : J tS M d pc ls (.int x :: st) V kc ks Q := J_ineg hd (kk _)
theorem Jz_i2bw {x : Int32} (hd : decode M.2.1 pc = .ok (.i2b, 1)) (kk : ∀ z : Int32, J tS M d (pc + 1) ls (.int z :: st) V kc ks Q) : J tS M d pc ls (.int x :: st) V kc ks Q := J_i2b hd rfl (kk _)
theorem Jz_l2iw {x : Int64} (hd : decode M.2.1 pc = .ok (.l2i, 1)) (kk : ∀ z : Int32, J tS M d (pc + 1) ls (.int z :: st) V kc ks Q) : J tS M d pc ls (.long x :: st) V kc ks Q := J_l2i hd rfl (kk _)
theorem Jz_lcmp {x y : Int64} (hd : decode M.2.1 pc = .ok (.lcmp, 1)) (kk : ∀ z : Int32, jLc z x y → J tS M d (pc + 1) ls (.int z :: st) V kc ks Q) : J tS M d pc ls (.long y :: .long x :: st) V kc ks Q := J_lcmp hd (kk _ jLc_of)
theorem Jz_lcmpw {x y : Int64} (hd : decode M.2.1 pc = .ok (.lcmp, 1)) (kk : ∀ z : Int32, J tS M d (pc + 1) ls (.int z :: st) V kc ks Q) : J tS M d pc ls (.long y :: .long x :: st) V kc ks Q := J_lcmp hd (kk _)
theorem Jz_iinc (c : Int) {i : Nat} {n : Int} {x : Int32} (hd : decode M.2.1 pc = .ok (.iinc i n, 3)) (hi : ls[i]? = some (some (.int x))) (hk : jlk ls i = true) (hm : i < M.2.2.1) {A : Int} (hx : jEq x.toInt A) (hc : (Int32.ofInt n).toInt = c) (h1 : -2147483648 ≤ A + c) (h2 : A + c ≤ 2147483647) (kk : ∀ z : Int32, jEq z.toInt (A + c) → J tS M d (pc + 3) (ls.set i (some (.int z))) st V kc ks Q) : J tS M d pc ls st V kc ks Q := by
  cases hx
  exact J_iinc hd hi rfl hk hm (kk _ (by subst hc; exact j_add h1 h2))
theorem Jz_iincw {i : Nat} {n : Int} {x : Int32} (hd : decode M.2.1 pc = .ok (.iinc i n, 3)) (hi : ls[i]? = some (some (.int x))) (hk : jlk ls i = true) (hm : i < M.2.2.1) (kk : ∀ z : Int32, J tS M d (pc + 3) (ls.set i (some (.int z))) st V kc ks Q) : J tS M d pc ls st V kc ks Q := J_iinc hd hi rfl hk hm (kk _)
theorem Jz_if_eq {x : Int32} {off : Int} {tgt : Nat} {A : Int} (hx : jEq x.toInt A) (hd : decode M.2.1 pc = .ok (.ifCond .eq off, 3)) (ht : (pc : Int) + off = (tgt : Int)) (kt : A = 0 → J tS M d tgt ls st V kc ks Q) (kf : ¬ A = 0 → J tS M d (pc + 3) ls st V kc ks Q) : J tS M d pc ls (.int x :: st) V kc ks Q := by
  cases hx
  exact J_if_eq hd ht (fun h => kt (jI_zero.mp h)) (fun h => kf (fun q => h (jI_zero.mpr q)))
theorem Jz_icmp_eq {x y : Int32} {off : Int} {tgt : Nat} {A B : Int} (hx : jEq x.toInt A) (hy : jEq y.toInt B) (hd : decode M.2.1 pc = .ok (.if_icmp .eq off, 3)) (ht : (pc : Int) + off = (tgt : Int)) (kt : A = B → J tS M d tgt ls st V kc ks Q) (kf : ¬ A = B → J tS M d (pc + 3) ls st V kc ks Q) : J tS M d pc ls (.int y :: .int x :: st) V kc ks Q := by
  cases hx
  cases hy
  exact J_icmp_eq hd ht (fun h => kt (jI_inj.mpr h)) (fun h => kf (fun q => h (jI_inj.mp q)))
theorem Jz_if_ne {x : Int32} {off : Int} {tgt : Nat} {A : Int} (hx : jEq x.toInt A) (hd : decode M.2.1 pc = .ok (.ifCond .ne off, 3)) (ht : (pc : Int) + off = (tgt : Int)) (kt : ¬ A = 0 → J tS M d tgt ls st V kc ks Q) (kf : A = 0 → J tS M d (pc + 3) ls st V kc ks Q) : J tS M d pc ls (.int x :: st) V kc ks Q := by
  cases hx
  exact J_if_ne hd ht (fun h => kt (fun q => h (jI_zero.mpr q))) (fun h => kf (jI_zero.mp h))
theorem Jz_icmp_ne {x y : Int32} {off : Int} {tgt : Nat} {A B : Int} (hx : jEq x.toInt A) (hy : jEq y.toInt B) (hd : decode M.2.1 pc = .ok (.if_icmp .ne off, 3)) (ht : (pc : Int) + off = (tgt : Int)) (kt : ¬ A = B → J tS M d tgt ls st V kc ks Q) (kf : A = B → J tS M d (pc + 3) ls st V kc ks Q) : J tS M d pc ls (.int y :: .int x :: st) V kc ks Q := by
  cases hx
  cases hy
  exact J_icmp_ne hd ht (fun h => kt (fun q => h (jI_inj.mp q))) (fun h => kf (jI_inj.mpr h))
theorem Jz_if_lt {x : Int32} {off : Int} {tgt : Nat} {A : Int} (hx : jEq x.toInt A) (hd : decode M.2.1 pc = .ok (.ifCond .lt off, 3)) (ht : (pc : Int) + off = (tgt : Int)) (kt : A < 0 → J tS M d tgt ls st V kc ks Q) (kf : ¬ A < 0 → J tS M d (pc + 3) ls st V kc ks Q) : J tS M d pc ls (.int x :: st) V kc ks Q := by
  cases hx
  exact J_if_lt hd ht (fun h => kt (by have q := jlt.mp h; rw [Int32.toInt_zero] at q; exact q)) (fun h => kf (fun q => h (jlt.mpr (by rw [Int32.toInt_zero]; exact q))))
theorem Jz_icmp_lt {x y : Int32} {off : Int} {tgt : Nat} {A B : Int} (hx : jEq x.toInt A) (hy : jEq y.toInt B) (hd : decode M.2.1 pc = .ok (.if_icmp .lt off, 3)) (ht : (pc : Int) + off = (tgt : Int)) (kt : A < B → J tS M d tgt ls st V kc ks Q) (kf : ¬ A < B → J tS M d (pc + 3) ls st V kc ks Q) : J tS M d pc ls (.int y :: .int x :: st) V kc ks Q := by
  cases hx
  cases hy
  exact J_icmp_lt hd ht (fun h => kt (jlt.mp h)) (fun h => kf (fun q => h (jlt.mpr q)))
theorem Jz_if_ge {x : Int32} {off : Int} {tgt : Nat} {A : Int} (hx : jEq x.toInt A) (hd : decode M.2.1 pc = .ok (.ifCond .ge off, 3)) (ht : (pc : Int) + off = (tgt : Int)) (kt : 0 ≤ A → J tS M d tgt ls st V kc ks Q) (kf : ¬ 0 ≤ A → J tS M d (pc + 3) ls st V kc ks Q) : J tS M d pc ls (.int x :: st) V kc ks Q := by
  cases hx
  exact J_if_ge hd ht (fun h => kt (by have q := jle.mp h; rw [Int32.toInt_zero] at q; exact q)) (fun h => kf (fun q => h (jle.mpr (by rw [Int32.toInt_zero]; exact q))))
theorem Jz_icmp_ge {x y : Int32} {off : Int} {tgt : Nat} {A B : Int} (hx : jEq x.toInt A) (hy : jEq y.toInt B) (hd : decode M.2.1 pc = .ok (.if_icmp .ge off, 3)) (ht : (pc : Int) + off = (tgt : Int)) (kt : B ≤ A → J tS M d tgt ls st V kc ks Q) (kf : ¬ B ≤ A → J tS M d (pc + 3) ls st V kc ks Q) : J tS M d pc ls (.int y :: .int x :: st) V kc ks Q := by
  cases hx
  cases hy
  exact J_icmp_ge hd ht (fun h => kt (jle.mp h)) (fun h => kf (fun q => h (jle.mpr q)))
theorem Jz_if_gt {x : Int32} {off : Int} {tgt : Nat} {A : Int} (hx : jEq x.toInt A) (hd : decode M.2.1 pc = .ok (.ifCond .gt off, 3)) (ht : (pc : Int) + off = (tgt : Int)) (kt : 0 < A → J tS M d tgt ls st V kc ks Q) (kf : ¬ 0 < A → J tS M d (pc + 3) ls st V kc ks Q) : J tS M d pc ls (.int x :: st) V kc ks Q := by
  cases hx
  exact J_if_gt hd ht (fun h => kt (by have q := jlt.mp h; rw [Int32.toInt_zero] at q; exact q)) (fun h => kf (fun q => h (jlt.mpr (by rw [Int32.toInt_zero]; exact q))))
theorem Jz_icmp_gt {x y : Int32} {off : Int} {tgt : Nat} {A B : Int} (hx : jEq x.toInt A) (hy : jEq y.toInt B) (hd : decode M.2.1 pc = .ok (.if_icmp .gt off, 3)) (ht : (pc : Int) + off = (tgt : Int)) (kt : B < A → J tS M d tgt ls st V kc ks Q) (kf : ¬ B < A → J tS M d (pc + 3) ls st V kc ks Q) : J tS M d pc ls (.int y :: .int x :: st) V kc ks Q := by
  cases hx
  cases hy
  exact J_icmp_gt hd ht (fun h => kt (jlt.mp h)) (fun h => kf (fun q => h (jlt.mpr q)))
theorem Jz_if_le {x : Int32} {off : Int} {tgt : Nat} {A : Int} (hx : jEq x.toInt A) (hd : decode M.2.1 pc = .ok (.ifCond .le off, 3)) (ht : (pc : Int) + off = (tgt : Int)) (kt : A ≤ 0 → J tS M d tgt ls st V kc ks Q) (kf : ¬ A ≤ 0 → J tS M d (pc + 3) ls st V kc ks Q) : J tS M d pc ls (.int x :: st) V kc ks Q := by
  cases hx
  exact J_if_le hd ht (fun h => kt (by have q := jle.mp h; rw [Int32.toInt_zero] at q; exact q)) (fun h => kf (fun q => h (jle.mpr (by rw [Int32.toInt_zero]; exact q))))
theorem Jz_icmp_le {x y : Int32} {off : Int} {tgt : Nat} {A B : Int} (hx : jEq x.toInt A) (hy : jEq y.toInt B) (hd : decode M.2.1 pc = .ok (.if_icmp .le off, 3)) (ht : (pc : Int) + off = (tgt : Int)) (kt : A ≤ B → J tS M d tgt ls st V kc ks Q) (kf : ¬ A ≤ B → J tS M d (pc + 3) ls st V kc ks Q) : J tS M d pc ls (.int y :: .int x :: st) V kc ks Q := by
  cases hx
  cases hy
  exact J_icmp_le hd ht (fun h => kt (jle.mp h)) (fun h => kf (fun q => h (jle.mpr q)))
theorem Jz_iald {t a n : Nat} {f : Nat → Int32} {i : Int32} {r : Int × Int} {A : Int} (hx : jEq i.toInt A) (hd : decode M.2.1 pc = .ok (.iaload, 1)) (hV : V a = some (.inl (t, n, .inl f))) (ht : jT[t]? = some .int) (hv : ∀ j, j < n → r.1 ≤ (f j).toInt ∧ (f j).toInt ≤ r.2) (h1 : 0 ≤ A) (h2 : A < (n : Int)) (kk : ∀ x : Int32, f A.toNat = x → r.1 ≤ x.toInt → x.toInt ≤ r.2 → J tS M d (pc + 1) ls (.int x :: st) V kc ks Q) : J tS M d pc ls (.int i :: .ref a :: st) V kc ks Q := by
  cases hx
  have hin : vp_in i n := vp_in_n h1 h2
  have h := hv i.toNatClampNeg (Nat.not_le.mp fun q => hin (Or.inr q))
  exact J_iald hd hV ht hin (kk _ rfl h.1 h.2)
theorem Jz_ialdr {t a n : Nat} {f : Nat → Int32} {i : Int32} {r : Int × Int} {A : Int} (hx : jEq i.toInt A) (hd : decode M.2.1 pc = .ok (.iaload, 1)) (hV : V a = some (.inl (t, n, .inl f))) (ht : jT[t]? = some .int) (hv : ∀ j, j < n → r.1 ≤ (f j).toInt ∧ (f j).toInt ≤ r.2) (h1 : 0 ≤ A) (h2 : A < (n : Int)) (kk : ∀ x : Int32, r.1 ≤ x.toInt → x.toInt ≤ r.2 → J tS M d (pc + 1) ls (.int x :: st) V kc ks Q) : J tS M d pc ls (.int i :: .ref a :: st) V kc ks Q := Jz_iald hx hd hV ht hv h1 h2 (fun x _ h3 h4 => kk x h3 h4)
theorem Jz_ialdw {t a n : Nat} {f : Nat → Int32} {i : Int32} {A : Int} (hx : jEq i.toInt A) (hd : decode M.2.1 pc = .ok (.iaload, 1)) (hV : V a = some (.inl (t, n, .inl f))) (ht : jT[t]? = some .int) (h1 : 0 ≤ A) (h2 : A < (n : Int)) (kk : ∀ x : Int32, J tS M d (pc + 1) ls (.int x :: st) V kc ks Q) : J tS M d pc ls (.int i :: .ref a :: st) V kc ks Q := by
  cases hx
  exact J_iald hd hV ht (vp_in_n h1 h2) (kk _)
theorem Jz_zald {t a n : Nat} {f : Nat → Int32} {i : Int32} {r : Int × Int} {A : Int} (hx : jEq i.toInt A) (hd : decode M.2.1 pc = .ok (.baload, 1)) (hV : V a = some (.inl (t, n, .inl f))) (ht : jT[t]? = some .boolean) (hv : ∀ j, j < n → r.1 ≤ (f j).toInt ∧ (f j).toInt ≤ r.2) (h1 : 0 ≤ A) (h2 : A < (n : Int)) (kk : ∀ x : Int32, f A.toNat = x → r.1 ≤ x.toInt → x.toInt ≤ r.2 → J tS M d (pc + 1) ls (.int x :: st) V kc ks Q) : J tS M d pc ls (.int i :: .ref a :: st) V kc ks Q := by
  cases hx
  have hin : vp_in i n := vp_in_n h1 h2
  have h := hv i.toNatClampNeg (Nat.not_le.mp fun q => hin (Or.inr q))
  exact J_zald hd hV ht hin (kk _ rfl h.1 h.2)
theorem Jz_zaldr {t a n : Nat} {f : Nat → Int32} {i : Int32} {r : Int × Int} {A : Int} (hx : jEq i.toInt A) (hd : decode M.2.1 pc = .ok (.baload, 1)) (hV : V a = some (.inl (t, n, .inl f))) (ht : jT[t]? = some .boolean) (hv : ∀ j, j < n → r.1 ≤ (f j).toInt ∧ (f j).toInt ≤ r.2) (h1 : 0 ≤ A) (h2 : A < (n : Int)) (kk : ∀ x : Int32, r.1 ≤ x.toInt → x.toInt ≤ r.2 → J tS M d (pc + 1) ls (.int x :: st) V kc ks Q) : J tS M d pc ls (.int i :: .ref a :: st) V kc ks Q := Jz_zald hx hd hV ht hv h1 h2 (fun x _ h3 h4 => kk x h3 h4)
theorem Jz_zaldw {t a n : Nat} {f : Nat → Int32} {i : Int32} {A : Int} (hx : jEq i.toInt A) (hd : decode M.2.1 pc = .ok (.baload, 1)) (hV : V a = some (.inl (t, n, .inl f))) (ht : jT[t]? = some .boolean) (h1 : 0 ≤ A) (h2 : A < (n : Int)) (kk : ∀ x : Int32, J tS M d (pc + 1) ls (.int x :: st) V kc ks Q) : J tS M d pc ls (.int i :: .ref a :: st) V kc ks Q := by
  cases hx
  exact J_zald hd hV ht (vp_in_n h1 h2) (kk _)
theorem Jz_bald {t a n : Nat} {f : Nat → Int32} {i : Int32} {r : Int × Int} {A : Int} (hx : jEq i.toInt A) (hd : decode M.2.1 pc = .ok (.baload, 1)) (hV : V a = some (.inl (t, n, .inl f))) (ht : jT[t]? = some .byte) (hv : ∀ j, j < n → r.1 ≤ (f j).toInt ∧ (f j).toInt ≤ r.2) (h1 : 0 ≤ A) (h2 : A < (n : Int)) (kk : ∀ x : Int32, f A.toNat = x → r.1 ≤ x.toInt → x.toInt ≤ r.2 → J tS M d (pc + 1) ls (.int x :: st) V kc ks Q) : J tS M d pc ls (.int i :: .ref a :: st) V kc ks Q := by
  cases hx
  have hin : vp_in i n := vp_in_n h1 h2
  have h := hv i.toNatClampNeg (Nat.not_le.mp fun q => hin (Or.inr q))
  exact J_bald hd hV ht hin (kk _ rfl h.1 h.2)
theorem Jz_baldr {t a n : Nat} {f : Nat → Int32} {i : Int32} {r : Int × Int} {A : Int} (hx : jEq i.toInt A) (hd : decode M.2.1 pc = .ok (.baload, 1)) (hV : V a = some (.inl (t, n, .inl f))) (ht : jT[t]? = some .byte) (hv : ∀ j, j < n → r.1 ≤ (f j).toInt ∧ (f j).toInt ≤ r.2) (h1 : 0 ≤ A) (h2 : A < (n : Int)) (kk : ∀ x : Int32, r.1 ≤ x.toInt → x.toInt ≤ r.2 → J tS M d (pc + 1) ls (.int x :: st) V kc ks Q) : J tS M d pc ls (.int i :: .ref a :: st) V kc ks Q := Jz_bald hx hd hV ht hv h1 h2 (fun x _ h3 h4 => kk x h3 h4)
theorem Jz_baldw {t a n : Nat} {f : Nat → Int32} {i : Int32} {A : Int} (hx : jEq i.toInt A) (hd : decode M.2.1 pc = .ok (.baload, 1)) (hV : V a = some (.inl (t, n, .inl f))) (ht : jT[t]? = some .byte) (h1 : 0 ≤ A) (h2 : A < (n : Int)) (kk : ∀ x : Int32, J tS M d (pc + 1) ls (.int x :: st) V kc ks Q) : J tS M d pc ls (.int i :: .ref a :: st) V kc ks Q := by
  cases hx
  exact J_bald hd hV ht (vp_in_n h1 h2) (kk _)
theorem Jz_lald {t a n : Nat} {f : Nat → Int64} {i : Int32} {A : Int} (hx : jEq i.toInt A) (hd : decode M.2.1 pc = .ok (.laload, 1)) (hV : V a = some (.inl (t, n, .inr (.inl f)))) (ht : jT[t]? = some .long) (h1 : 0 ≤ A) (h2 : A < (n : Int)) (kk : ∀ x : Int64, J tS M d (pc + 1) ls (.long x :: st) V kc ks Q) : J tS M d pc ls (.int i :: .ref a :: st) V kc ks Q := by
  cases hx
  exact J_lald hd hV ht (vp_in_n h1 h2) (kk _)
theorem Jz_last {t a n : Nat} {f : Nat → Int64} {i : Int32} {x : Int64} {p : Nat → Prop} {A : Int} (hx : jEq i.toInt A) (hW : WTx p V) (hp : ¬ p a) (hd : decode M.2.1 pc = .ok (.lastore, 1)) (hV : V a = some (.inl (t, n, .inr (.inl f)))) (ht : jT[t]? = some .long) (hc : jAc t = .inr none) (h1 : 0 ≤ A) (h2 : A < (n : Int)) (kk : ∀ V2 : jH, WTx p V2 → jeff [.inl t] V V2 → J tS M d (pc + 1) ls st V2 kc ks Q) : J tS M d pc ls (.long x :: .int i :: .ref a :: st) V kc ks Q := by
  cases hx
  exact Jw_last hW hp hd hV ht hc (vp_in_n h1 h2) (fun V2 h3 h4 _ => kk V2 h3 h4)
theorem Jz_iast {t a n : Nat} {f : Nat → Int32} {i x : Int32} {r : Int × Int} {p : Nat → Prop} {A : Int} (hx : jEq i.toInt A) {X : Int} (hz : jEq x.toInt X) (hW : WTx p V) (hp : ¬ p a) (hd : decode M.2.1 pc = .ok (.iastore, 1)) (hV : V a = some (.inl (t, n, .inl f))) (ht : jT[t]? = some .int) (hc : jAc t = .inl r) (hi1 : 0 ≤ A) (hi2 : A < (n : Int)) (h1 : r.1 ≤ X) (h2 : X ≤ r.2) (kk : ∀ (V' : jH) (f' : Nat → Int32), WTx p V' → jeff [.inl t] V V' → V' a = some (.inl (t, n, .inl f')) → f' A.toNat = x → (∀ k, k ≠ A.toNat → f' k = f k) → J tS M d (pc + 1) ls st V' kc ks Q) : J tS M d pc ls (.int x :: .int i :: .ref a :: st) V kc ks Q := by
  cases hx
  cases hz
  have h0 := hW a _ hp hV
  refine J_iast hd hV ht (vp_in_n hi1 hi2) (kk _ _ (hW.put hV jrel.arr (fun _ => ⟨h0.1, h0.2.1, ?_⟩)) (jeff.put hV jrel.arr List.mem_cons_self) jup_self (by exact pk_us) (fun k hk => pk_un hk))
  have h3 := h0.2.2
  dsimp only at h3 ⊢
  rw [hc] at h3 ⊢
  obtain ⟨g, hg, h4⟩ := h3
  cases hg
  refine ⟨_, rfl, fun j hj => ?_⟩
  by_cases hq : j = i.toNatClampNeg
  · subst hq
    rw [pk_us]
    exact ⟨h1, h2⟩
  · rw [pk_un hq]
    exact h4 j hj
theorem Jz_iastw {t a n : Nat} {f : Nat → Int32} {i x : Int32} {r : Int × Int} {p : Nat → Prop} {A : Int} (hx : jEq i.toInt A) {X : Int} (hz : jEq x.toInt X) (hW : WTx p V) (hp : ¬ p a) (hd : decode M.2.1 pc = .ok (.iastore, 1)) (hV : V a = some (.inl (t, n, .inl f))) (ht : jT[t]? = some .int) (hc : jAc t = .inl r) (hi1 : 0 ≤ A) (hi2 : A < (n : Int)) (h1 : r.1 ≤ X) (h2 : X ≤ r.2) (kk : ∀ V' : jH, WTx p V' → jeff [.inl t] V V' → J tS M d (pc + 1) ls st V' kc ks Q) : J tS M d pc ls (.int x :: .int i :: .ref a :: st) V kc ks Q := Jz_iast hx hz hW hp hd hV ht hc hi1 hi2 h1 h2 (fun V' _ h3 h4 _ _ _ => kk V' h3 h4)
theorem Jz_zast {t a n : Nat} {f : Nat → Int32} {i x : Int32} {r : Int × Int} {p : Nat → Prop} {A : Int} (hx : jEq i.toInt A) {X : Int} (hz : jEq x.toInt X) (hW : WTx p V) (hp : ¬ p a) (hd : decode M.2.1 pc = .ok (.bastore, 1)) (hV : V a = some (.inl (t, n, .inl f))) (ht : jT[t]? = some .boolean) (hc : jAc t = .inl r) (hi1 : 0 ≤ A) (hi2 : A < (n : Int)) (h1 : r.1 ≤ X) (h2 : X ≤ r.2) (hnr : ∀ q : Int32, q.toInt = X → vp_nar .boolean q = q) (kk : ∀ (V' : jH) (f' : Nat → Int32), WTx p V' → jeff [.inl t] V V' → V' a = some (.inl (t, n, .inl f')) → f' A.toNat = x → (∀ k, k ≠ A.toNat → f' k = f k) → J tS M d (pc + 1) ls st V' kc ks Q) : J tS M d pc ls (.int x :: .int i :: .ref a :: st) V kc ks Q := by
  cases hx
  cases hz
  have h0 := hW a _ hp hV
  refine J_zast hd hV ht (vp_in_n hi1 hi2) (kk _ _ (hW.put hV jrel.arr (fun _ => ⟨h0.1, h0.2.1, ?_⟩)) (jeff.put hV jrel.arr List.mem_cons_self) jup_self (by rw [hnr x rfl]; exact pk_us) (fun k hk => pk_un hk))
  have h3 := h0.2.2
  dsimp only at h3 ⊢
  rw [hc] at h3 ⊢
  obtain ⟨g, hg, h4⟩ := h3
  cases hg
  refine ⟨_, rfl, fun j hj => ?_⟩
  by_cases hq : j = i.toNatClampNeg
  · subst hq
    rw [hnr x rfl]; rw [pk_us]
    exact ⟨h1, h2⟩
  · rw [pk_un hq]
    exact h4 j hj
theorem Jz_zastw {t a n : Nat} {f : Nat → Int32} {i x : Int32} {r : Int × Int} {p : Nat → Prop} {A : Int} (hx : jEq i.toInt A) {X : Int} (hz : jEq x.toInt X) (hW : WTx p V) (hp : ¬ p a) (hd : decode M.2.1 pc = .ok (.bastore, 1)) (hV : V a = some (.inl (t, n, .inl f))) (ht : jT[t]? = some .boolean) (hc : jAc t = .inl r) (hi1 : 0 ≤ A) (hi2 : A < (n : Int)) (h1 : r.1 ≤ X) (h2 : X ≤ r.2) (hnr : ∀ q : Int32, q.toInt = X → vp_nar .boolean q = q) (kk : ∀ V' : jH, WTx p V' → jeff [.inl t] V V' → J tS M d (pc + 1) ls st V' kc ks Q) : J tS M d pc ls (.int x :: .int i :: .ref a :: st) V kc ks Q := Jz_zast hx hz hW hp hd hV ht hc hi1 hi2 h1 h2 hnr (fun V' _ h3 h4 _ _ _ => kk V' h3 h4)
theorem Jz_bast {t a n : Nat} {f : Nat → Int32} {i x : Int32} {r : Int × Int} {p : Nat → Prop} {A : Int} (hx : jEq i.toInt A) {X : Int} (hz : jEq x.toInt X) (hW : WTx p V) (hp : ¬ p a) (hd : decode M.2.1 pc = .ok (.bastore, 1)) (hV : V a = some (.inl (t, n, .inl f))) (ht : jT[t]? = some .byte) (hc : jAc t = .inl r) (hi1 : 0 ≤ A) (hi2 : A < (n : Int)) (h1 : r.1 ≤ X) (h2 : X ≤ r.2) (hnr : ∀ q : Int32, q.toInt = X → vp_nar .byte q = q) (kk : ∀ (V' : jH) (f' : Nat → Int32), WTx p V' → jeff [.inl t] V V' → V' a = some (.inl (t, n, .inl f')) → f' A.toNat = x → (∀ k, k ≠ A.toNat → f' k = f k) → J tS M d (pc + 1) ls st V' kc ks Q) : J tS M d pc ls (.int x :: .int i :: .ref a :: st) V kc ks Q := by
  cases hx
  cases hz
  have h0 := hW a _ hp hV
  refine J_bast hd hV ht (vp_in_n hi1 hi2) (kk _ _ (hW.put hV jrel.arr (fun _ => ⟨h0.1, h0.2.1, ?_⟩)) (jeff.put hV jrel.arr List.mem_cons_self) jup_self (by rw [hnr x rfl]; exact pk_us) (fun k hk => pk_un hk))
  have h3 := h0.2.2
  dsimp only at h3 ⊢
  rw [hc] at h3 ⊢
  obtain ⟨g, hg, h4⟩ := h3
  cases hg
  refine ⟨_, rfl, fun j hj => ?_⟩
  by_cases hq : j = i.toNatClampNeg
  · subst hq
    rw [hnr x rfl]; rw [pk_us]
    exact ⟨h1, h2⟩
  · rw [pk_un hq]
    exact h4 j hj
theorem Jz_bastw {t a n : Nat} {f : Nat → Int32} {i x : Int32} {r : Int × Int} {p : Nat → Prop} {A : Int} (hx : jEq i.toInt A) {X : Int} (hz : jEq x.toInt X) (hW : WTx p V) (hp : ¬ p a) (hd : decode M.2.1 pc = .ok (.bastore, 1)) (hV : V a = some (.inl (t, n, .inl f))) (ht : jT[t]? = some .byte) (hc : jAc t = .inl r) (hi1 : 0 ≤ A) (hi2 : A < (n : Int)) (h1 : r.1 ≤ X) (h2 : X ≤ r.2) (hnr : ∀ q : Int32, q.toInt = X → vp_nar .byte q = q) (kk : ∀ V' : jH, WTx p V' → jeff [.inl t] V V' → J tS M d (pc + 1) ls st V' kc ks Q) : J tS M d pc ls (.int x :: .int i :: .ref a :: st) V kc ks Q := Jz_bast hx hz hW hp hd hV ht hc hi1 hi2 h1 h2 hnr (fun V' _ h3 h4 _ _ _ => kk V' h3 h4)
theorem Jz_putI {index ci k a : Nat} {r : Int × Int} {ty : FieldType} {x : Int32} {fs : List Value} {p : Nat → Prop} (h3 : V a = some (.inr (ci, fs))) (hW : WTx p V) (hp : ¬ p a) (hc : (jFs ci)[k]? = some (.inl r)) (hF : jF M.1.cls index ci k) (hT : jFt ci k false ty) {X : Int} (hz : jEq x.toInt X) (hd : decode M.2.1 pc = .ok (.putfield index, 3)) (h1 : r.1 ≤ X) (h2 : X ≤ r.2) (hn : ∀ q : Int32, q.toInt = X → narrow ty (.int q) = .int q ∧ fits ty (.int q) = true) (kk : ∀ (V' : jH) (fs' : List Value), WTx p V' → jeff [.inr ci] V V' → V' a = some (.inr (ci, fs')) → fs'[k]? = some (.int x) → (∀ j, j ≠ k → fs'[j]? = fs[j]?) → (∀ b : Nat, b ≠ a → V' b = V b) → J tS M d (pc + 3) ls st V' kc ks Q) : J tS M d pc ls (.int x :: .ref a :: st) V kc ks Q := by
  cases hz
  have h4 : jokO V (jFs ci) fs := hW a _ hp h3
  have hl : k < fs.length := by rw [h4.1]; exact (List.getElem?_eq_some_iff.mp hc).1
  exact J_put hF hT hd h3 (hn x rfl).1 (hn x rfl).2 hl (kk _ _ (hW.put h3 (jrel.obj (jokO_nrI h4 hc)) (fun _ => jokO_set h4 hc ⟨x, rfl, h1, h2⟩)) (jeff.put h3 (jrel.obj (jokO_nrI h4 hc)) List.mem_cons_self) jup_self (List.getElem?_set_self hl) (fun j hj => List.getElem?_set_ne (Ne.symm hj)) (fun b hb => jup_ne hb))
theorem Jz_putL {index ci k a : Nat} {ty : FieldType} {x : Int64} {fs : List Value} {p : Nat → Prop} (h3 : V a = some (.inr (ci, fs))) (hW : WTx p V) (hp : ¬ p a) (hc : (jFs ci)[k]? = some (.inr none)) (hF : jF M.1.cls index ci k) (hT : jFt ci k false ty) (hd : decode M.2.1 pc = .ok (.putfield index, 3)) (hn : narrow ty (.long x) = .long x) (hf : fits ty (.long x) = true) (kk : ∀ (V' : jH) (fs' : List Value), WTx p V' → jeff [.inr ci] V V' → V' a = some (.inr (ci, fs')) → fs'[k]? = some (.long x) → (∀ j, j ≠ k → fs'[j]? = fs[j]?) → (∀ b : Nat, b ≠ a → V' b = V b) → J tS M d (pc + 3) ls st V' kc ks Q) : J tS M d pc ls (.long x :: .ref a :: st) V kc ks Q := by
  have h4 : jokO V (jFs ci) fs := hW a _ hp h3
  have hl : k < fs.length := by rw [h4.1]; exact (List.getElem?_eq_some_iff.mp hc).1
  exact J_put hF hT hd h3 hn hf hl (kk _ _ (hW.put h3 (jrel.obj (jokO_nrL h4 hc)) (fun _ => jokO_set h4 hc ⟨x, rfl⟩)) (jeff.put h3 (jrel.obj (jokO_nrL h4 hc)) List.mem_cons_self) jup_self (List.getElem?_set_self hl) (fun j hj => List.getElem?_set_ne (Ne.symm hj)) (fun b hb => jup_ne hb))
end JZ
