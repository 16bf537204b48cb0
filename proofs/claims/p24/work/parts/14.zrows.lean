theorem jI_inj {x y : Int32} : x.toInt = y.toInt ↔ x = y := Int32.toInt_inj
theorem jI_zero {x : Int32} : x = 0 ↔ x.toInt = 0 := ⟨fun h => by rw [h]; rfl, fun h => Int32.toInt_inj.mp (by rw [h]; rfl)⟩
/-- hidden from arithmetic until it is asked for -/
def jEq (a b : Int) : Prop := a = b
theorem jEq.eq {a b : Int} (h : jEq a b) : a = b := h
theorem jEq.rf {a : Int} : jEq a a := rfl
def jIf (y : Int32) (c : Int) (P : Prop) : Prop := y.toInt = c → P
def jImp (P R : Prop) : Prop := P → R
theorem jIf.of {y : Int32} {c : Int} {P : Prop} (h : jIf y c P) (h2 : y.toInt = c) : P := h h2
theorem jImp.of {P R : Prop} (h : jImp P R) (h2 : P) : R := h h2
def jfL (V : jH) (a ci k : Nat) (y : Int64) : Prop := ∃ fs : List Value, V a = some (.inr (ci, fs)) ∧ fs[k]? = some (.long y)
theorem jfL.get {V : jH} {a ci k : Nat} {y : Int64} {fs : List Value} (h : jfL V a ci k y) (hO : V a = some (.inr (ci, fs))) : fs[k]? = some (.long y) := by
  obtain ⟨fs2, h1, h2⟩ := h
  cases h1.symm.trans hO
  exact h2
theorem jfL.keep {E : List jKd} {V V' : jH} {a ci k : Nat} {y : Int64} (h : jfL V a ci k y) (he : jeff E V V') (hn : (.inr ci : jKd) ∉ E) : jfL V' a ci k y := by
  obtain ⟨fs, h1, h2⟩ := h
  exact ⟨fs, he.2 _ _ h1 hn, h2⟩
theorem jfI.get {V : jH} {a ci k : Nat} {y : Int32} {fs : List Value} (h : jfI V a ci k y) (hO : V a = some (.inr (ci, fs))) : fs[k]? = some (.int y) := by
  obtain ⟨fs2, h1, h2⟩ := h
  cases h1.symm.trans hO
  exact h2
theorem jfR.get {V : jH} {a ci k : Nat} {b : Nat} {fs : List Value} (h : jfR V a ci k b) (hO : V a = some (.inr (ci, fs))) : fs[k]? = some (.ref b) := by
  obtain ⟨fs2, h1, h2⟩ := h
  cases h1.symm.trans hO
  exact h2
theorem jext.keep {V V' : jH} (h : jext V V') {a ci : Nat} {fs : List Value} (hV : V a = some (.inr (ci, fs))) : ∃ fs' : List Value, V' a = some (.inr (ci, fs')) ∧ ∀ k b : Nat, fs[k]? = some (.ref b) → fs'[k]? = some (.ref b) := by
  obtain ⟨e', h1, h2⟩ := h a _ hV
  match e', h1, h2 with
  | .inr (c, fs'), h1, h2 =>
    have h3 : c = ci := h2.1
    subst h3
    exact ⟨fs', h1, h2.2⟩
theorem WT_rngI {p : Nat → Prop} {V : jH} {t a n : Nat} {f : Nat → Int32} {r : Int × Int} (hW : WTx p V) (hp : ¬ p a) (hc : jAc t = .inl r) (hA : V a = some (.inl (t, n, .inl f))) : n < 2 ^ 31 ∧ ∀ j, j < n → r.1 ≤ (f j).toInt ∧ (f j).toInt ≤ r.2 := by
  obtain ⟨n2, f2, h1, h2, h3, h4⟩ := WT_arrI hW hp hc ⟨_, hA, rfl⟩
  cases hA.symm.trans h1
  exact ⟨h2, h4⟩
theorem jz_div {x y : Int32} (hx : 0 ≤ x.toInt) (hy : 0 < y.toInt) : (x / y).toInt = x.toInt / y.toInt := by
  have h1 := j_rng x
  have h2 := j_rng y
  have h3 : x.toInt / y.toInt ≤ x.toInt := Int.ediv_le_self _ hx
  have h4 : 0 ≤ x.toInt / y.toInt := Int.ediv_nonneg hx (by omega)
  rw [Int32.toInt_div, Int.tdiv_eq_ediv_of_nonneg hx, Int.bmod_eq_of_le (by omega) (by omega)]
theorem jz_rem {x y : Int32} (hx : 0 ≤ x.toInt) (hy : 0 < y.toInt) : (x - x / y * y).toInt = x.toInt % y.toInt := by
  have h1 := jz_div hx hy
  have h2 := Int.emod_def x.toInt y.toInt
  have h3 := Int.emod_nonneg x.toInt (show y.toInt ≠ 0 by omega)
  have h4 := j_rng x
  have h5 : 0 ≤ (x / y).toInt * y.toInt := by rw [h1]; exact Int.mul_nonneg (Int.ediv_nonneg hx (by omega)) (by omega)
  have h6 : (x / y).toInt * y.toInt = y.toInt * (x.toInt / y.toInt) := by rw [h1, Int.mul_comm]
  have h7 := j_mul (x := x / y) (y := y) (by omega) (by omega)
  have h8 := j_sub (x := x) (y := x / y * y) (by omega) (by omega)
  omega
theorem jok_rngI {V : jH} {cs : List jFC} {fs : List Value} {k : Nat} {r : Int × Int} {x : Int32} (h : jokO V cs fs) (hc : cs[k]? = some (.inl r)) (hF : fs[k]? = some (.int x)) : r.1 ≤ x.toInt ∧ x.toInt ≤ r.2 := by
  obtain ⟨v, h1, y, rfl, h2, h3⟩ := h.2 k _ hc
  cases hF.symm.trans h1
  exact ⟨h2, h3⟩
/-- how many of the first n places hold another number than c -/
def jcn (c : Int) (F : Nat → Int32) : Nat → Nat
  | 0 => 0
  | n + 1 => jcn c F n + (if (F n).toInt = c then 0 else 1)
theorem jcn_le {c : Int} {F : Nat → Int32} : ∀ n : Nat, jcn c F n ≤ n
  | 0 => Nat.le_refl _
  | n + 1 => by
    have h := jcn_le (c := c) (F := F) n
    unfold jcn
    split <;> omega
theorem jcn_lt {c : Int} {F : Nat → Int32} {k : Nat} (hF : (F k).toInt = c) : ∀ n : Nat, k < n → jcn c F n < n
  | 0, h => absurd h (Nat.not_lt_zero _)
  | n + 1, h => by
    have h1 := jcn_le (c := c) (F := F) n
    unfold jcn
    by_cases hk : k = n
    · subst hk
      rw [if_pos hF]
      omega
    · have h2 := jcn_lt hF n (by omega)
      split <;> omega
theorem jcn_congr {c : Int} {F G : Nat → Int32} : ∀ n : Nat, (∀ k, k < n → G k = F k) → jcn c G n = jcn c F n
  | 0, _ => rfl
  | n + 1, h => by
    have h1 := jcn_congr (c := c) n (fun k hk => h k (by omega))
    unfold jcn
    rw [h1, h n (by omega)]
theorem jcn_up {c : Int} {F G : Nat → Int32} {k : Nat} (hF : (F k).toInt = c) (hG : ¬ (G k).toInt = c) (ho : ∀ j, j ≠ k → G j = F j) : ∀ n : Nat, k < n → jcn c G n = jcn c F n + 1
  | 0, h => absurd h (Nat.not_lt_zero _)
  | n + 1, h => by
    unfold jcn
    by_cases hk : k = n
    · subst hk
      rw [jcn_congr k (fun j hj => ho j (by omega)), if_pos hF, if_neg hG]
    · rw [jcn_up hF hG ho n (by omega), ho n (by omega)]
      omega
theorem jcn_dn {c : Int} {F G : Nat → Int32} {k n : Nat} (hF : ¬ (F k).toInt = c) (hG : (G k).toInt = c) (ho : ∀ j, j ≠ k → G j = F j) (h : k < n) : jcn c F n = jcn c G n + 1 := jcn_up hG hF (fun j hj => (ho j hj).symm) n h
theorem jcn_zero {c : Int} {F : Nat → Int32} : ∀ n : Nat, (∀ k, k < n → (F k).toInt = c) → jcn c F n = 0
  | 0, _ => rfl
  | n + 1, h => by
    unfold jcn
    rw [jcn_zero n (fun k hk => h k (by omega)), if_pos (h n (by omega))]
theorem jcn_one {c : Int} {F : Nat → Int32} {n : Nat} (h0 : ¬ (F 0).toInt = c) (h : ∀ k, 0 < k → k < n → (F k).toInt = c) (hn : 0 < n) : jcn c F n = 1 := by
  induction n with
  | zero => exact absurd hn (Nat.lt_irrefl _)
  | succ n ih =>
    unfold jcn
    by_cases hz : n = 0
    · subst hz
      rw [if_neg h0]
      rfl
    · rw [ih (fun k h1 h2 => h k h1 (by omega)) (by omega), if_pos (h n (by omega) (by omega))]
theorem jcn_ge {c : Int} {F G : Nat → Int32} {k : Nat} (hG : ¬ (G k).toInt = c) (ho : ∀ j, j ≠ k → G j = F j) : ∀ n : Nat, jcn c F n ≤ jcn c G n
  | 0 => Nat.le_refl _
  | n + 1 => by
    have ih := jcn_ge hG ho n
    unfold jcn
    by_cases hk : n = k
    · subst hk
      rw [if_neg hG]
      split <;> omega
    · rw [ho n hk]
      split <;> omega
/-- powers -/
def jpw (d : Int) : Nat → Int
  | 0 => 1
  | n + 1 => d * jpw d n
theorem jpw_pos {d : Int} (h : 1 ≤ d) : ∀ n : Nat, 1 ≤ jpw d n
  | 0 => Int.le_refl _
  | n + 1 => by
    have h1 := jpw_pos h n
    have h2 := Int.mul_le_mul_of_nonneg_right h (show 0 ≤ jpw d n by omega)
    show 1 ≤ d * jpw d n
    omega
theorem jpw_mono {d : Int} (h : 1 ≤ d) {a b : Nat} (hab : a ≤ b) : jpw d a ≤ jpw d b := by
  induction b with
  | zero => rw [show a = 0 by omega]; exact Int.le_refl _
  | succ b ih =>
    by_cases hq : a = b + 1
    · rw [hq]; exact Int.le_refl _
    · have h1 := ih (by omega)
      have h2 := jpw_pos h b
      have h3 := Int.mul_le_mul_of_nonneg_right h (show 0 ≤ jpw d b by omega)
      show jpw d a ≤ d * jpw d b
      omega
theorem jpw_le6 {d : Int} (h : 1 ≤ d) (h6 : d ≤ 6) {n : Nat} (hn : n ≤ 7) : jpw d n ≤ 279936 := by
  have h1 := jpw_mono h hn
  have h2 : ∀ n : Nat, jpw d n ≤ jpw 6 n := by
    intro n
    induction n with
    | zero => exact Int.le_refl _
    | succ n ih =>
      have h3 := Int.mul_le_mul_of_nonneg_left ih (show 0 ≤ d by omega)
      have h4 := Int.mul_le_mul_of_nonneg_right h6 (show 0 ≤ jpw 6 n by have := jpw_pos (d := 6) (by omega) n; omega)
      show d * jpw d n ≤ 6 * jpw 6 n
      omega
  have h3 := h2 7
  have h4 : jpw 6 7 = 279936 := by decide
  omega
theorem jto_step {d a P r : Int} (h1 : 0 ≤ a) (h2 : a < P) (h3 : 0 ≤ r) (h4 : r < d) : 0 ≤ d * a ∧ 0 ≤ d * a + r ∧ d * a + r < d * P := by
  have h5 := Int.mul_nonneg (show 0 ≤ d by omega) h1
  have h6 := Int.mul_le_mul_of_nonneg_left (show a + 1 ≤ P by omega) (show 0 ≤ d by omega)
  rw [Int.mul_add, Int.mul_one] at h6
  omega
/-- a place's number on a board -/
theorem jcell_zero {x y w : Int} (hx : 0 ≤ x) (hw : 0 < w) (hy : 0 ≤ y) : x + w * y = 0 ↔ x = 0 ∧ y = 0 := by
  constructor
  · intro h
    have h1 := Int.mul_nonneg (show 0 ≤ w by omega) hy
    by_cases hy0 : y = 0
    · subst hy0
      omega
    · have h2 := Int.mul_le_mul_of_nonneg_left (show 1 ≤ y by omega) (show 0 ≤ w by omega)
      omega
  · rintro ⟨rfl, rfl⟩
    omega
theorem jcell_last {x y w h : Int} (hx : 0 ≤ x) (hxw : x < w) (hy : 0 ≤ y) (hyh : y < h) : x + w * y = w * h - 1 ↔ x = w - 1 ∧ y = h - 1 := by
  have h1 : w * (h - 1) = w * h - w := by rw [Int.mul_sub, Int.mul_one]
  constructor
  · intro q
    by_cases hy1 : y = h - 1
    · subst hy1
      omega
    · have h2 := Int.mul_le_mul_of_nonneg_left (show y + 1 ≤ h - 1 by omega) (show 0 ≤ w by omega)
      rw [Int.mul_add, Int.mul_one] at h2
      omega
  · rintro ⟨rfl, rfl⟩
    omega
def jdir (g : Int) : Int := if g = 0 then 4 else if g = 2 then 3 else 6
def jtur (g : Int) : Int := if g = 0 then 8 else if g = 1 then 12 else if g = 3 then 48 else 0
theorem jdir_cases (g : Int) : (g = 0 ∧ jdir g = 4) ∨ (g = 2 ∧ jdir g = 3) ∨ (¬ g = 0 ∧ ¬ g = 2 ∧ jdir g = 6) := by
  unfold jdir
  by_cases h : g = 0
  · exact Or.inl ⟨h, by rw [if_pos h]⟩
  by_cases h2 : g = 2
  · exact Or.inr (Or.inl ⟨h2, by rw [if_neg h, if_pos h2]⟩)
  · exact Or.inr (Or.inr ⟨h, h2, by rw [if_neg h, if_neg h2]⟩)
theorem jtur_cases (g : Int) : (g = 0 ∧ jtur g = 8) ∨ (g = 1 ∧ jtur g = 12) ∨ (g = 3 ∧ jtur g = 48) ∨ (¬ g = 0 ∧ ¬ g = 1 ∧ ¬ g = 3 ∧ jtur g = 0) := by
  unfold jtur
  by_cases h : g = 0
  · exact Or.inl ⟨h, by rw [if_pos h]⟩
  by_cases h1 : g = 1
  · exact Or.inr (Or.inl ⟨h1, by rw [if_neg h, if_pos h1]⟩)
  by_cases h3 : g = 3
  · exact Or.inr (Or.inr (Or.inl ⟨h3, by rw [if_neg h, if_neg h1, if_pos h3]⟩))
  · exact Or.inr (Or.inr (Or.inr ⟨h, h1, h3, by rw [if_neg h, if_neg h1, if_neg h3]⟩))
theorem jsw6 (x : Int32) : x = 0 ∨ x = 1 ∨ x = 2 ∨ x = 3 ∨ x = 4 ∨ x = 5 ∨ x = 6 ∨ x.toInt < 0 ∨ 6 < x.toInt := by
  by_cases h0 : x.toInt < 0
  · exact Or.inr (Or.inr (Or.inr (Or.inr (Or.inr (Or.inr (Or.inr (Or.inl h0)))))))
  by_cases h1 : 6 < x.toInt
  · exact Or.inr (Or.inr (Or.inr (Or.inr (Or.inr (Or.inr (Or.inr (Or.inr h1)))))))
  rcases (show x.toInt = 0 ∨ x.toInt = 1 ∨ x.toInt = 2 ∨ x.toInt = 3 ∨ x.toInt = 4 ∨ x.toInt = 5 ∨ x.toInt = 6 by omega) with h | h | h | h | h | h | h
  · exact Or.inl (Int32.toInt_inj.mp (by rw [h]; rfl))
  · exact Or.inr (Or.inl (Int32.toInt_inj.mp (by rw [h]; rfl)))
  · exact Or.inr (Or.inr (Or.inl (Int32.toInt_inj.mp (by rw [h]; rfl))))
  · exact Or.inr (Or.inr (Or.inr (Or.inl (Int32.toInt_inj.mp (by rw [h]; rfl)))))
  · exact Or.inr (Or.inr (Or.inr (Or.inr (Or.inl (Int32.toInt_inj.mp (by rw [h]; rfl))))))
  · exact Or.inr (Or.inr (Or.inr (Or.inr (Or.inr (Or.inl (Int32.toInt_inj.mp (by rw [h]; rfl)))))))
  · exact Or.inr (Or.inr (Or.inr (Or.inr (Or.inr (Or.inr (Or.inl (Int32.toInt_inj.mp (by rw [h]; rfl))))))))
/-- the arrays of role 9: no place becomes -1 -/
def jle9 (V V' : jH) : Prop := ∀ (a : Nat) (h : Nat → Int32), V a = some (.inl (9, 7, .inl h)) → ∃ h' : Nat → Int32, V' a = some (.inl (9, 7, .inl h')) ∧ jcn (-1) h 7 ≤ jcn (-1) h' 7
theorem jle9.rf {V : jH} : jle9 V V := fun _ h q => ⟨h, q, Nat.le_refl _⟩
theorem jle9.trans {V1 V2 V3 : jH} (h1 : jle9 V1 V2) (h2 : jle9 V2 V3) : jle9 V1 V3 := fun a h q => by
  obtain ⟨h', q1, l1⟩ := h1 a h q
  obtain ⟨h3, q2, l2⟩ := h2 a h' q1
  exact ⟨h3, q2, Nat.le_trans l1 l2⟩
theorem jle9.of {E : List jKd} {V V' : jH} (h : jeff E V V') (h9 : (.inl 9 : jKd) ∉ E) : jle9 V V' := fun a f q => ⟨f, h.2 a _ q h9, Nat.le_refl _⟩
theorem jfI.keep {E : List jKd} {V V' : jH} {a ci k : Nat} {y : Int32} (h : jfI V a ci k y) (he : jeff E V V') (hn : (.inr ci : jKd) ∉ E) : jfI V' a ci k y := by
  obtain ⟨fs, h1, h2⟩ := h
  exact ⟨fs, he.2 _ _ h1 hn, h2⟩
theorem jfI.kp {c : Nat} {ks : List Nat} {V V' : jH} {a k : Nat} {y : Int32} (h : jfI V a c k y) (hk : jkc c ks V V') (hm : k ∈ ks) : jfI V' a c k y := by
  obtain ⟨fs, h1, h2⟩ := h
  obtain ⟨fs', h3, h4⟩ := hk a fs h1
  exact ⟨fs', h3, (h4 k hm).trans h2⟩
/-- a comparison of longs, hidden from arithmetic -/
def jLc (z : Int32) (x y : Int64) : Prop := z.toInt = 0 ↔ x = y
theorem jLc_of {x y : Int64} : jLc (lg_cmp x y) x y := jI_zero.symm.trans (lg_cmp_eq x y)
/-- bits of a long -/
def jbt (v : Int64) (n : Nat) : Bool := v.toBitVec.getLsbD n
/-- the board of a new object: 2 by 2, no hole -/
def jpl0 (V : jH) (pl : Nat) : Prop := ∃ (w h : Int32) (op : Int64), jfI V pl 0 1 w ∧ jfI V pl 0 2 h ∧ jfL V pl 0 3 op ∧ w.toInt = 2 ∧ h.toInt = 2 ∧ ∀ n : Nat, jbt op n = true ↔ ∃ x y : Nat, ((x : Int) < 2 ∧ (y : Int) < 2) ∧ n = 9 + x + 8 * y
theorem jpl0.keep {E : List jKd} {V V' : jH} {pl : Nat} (h : jpl0 V pl) (he : jeff E V V') (hn : (.inr 0 : jKd) ∉ E) : jpl0 V' pl := by
  obtain ⟨w, h, op, q1, q2, q3, q4⟩ := h
  exact ⟨w, h, op, q1.keep he hn, q2.keep he hn, q3.keep he hn, q4⟩
def jpx (V : jH) (x : Nat) : Prop := ∃ (xs : List Value) (pl : Nat), V x = some (.inr (4, xs)) ∧ xs[6]? = some (.ref pl) ∧ jpl0 V pl
theorem jpx.keep {E : List jKd} {V V' : jH} {x : Nat} (h : jpx V x) (he : jeff E V V') (h0 : (.inr 0 : jKd) ∉ E) (h4 : (.inr 4 : jKd) ∉ E) : jpx V' x := by
  obtain ⟨xs, pl, q1, q2, q3⟩ := h
  exact ⟨xs, pl, he.2 _ _ q1 h4, q2, q3.keep he h0⟩
def jmx (V : jH) (m : Nat) : Prop := ∃ (ms : List Value) (rh : Nat), V m = some (.inr (5, ms)) ∧ ms[25]? = some (.ref rh) ∧ V rh = some (.inl (43, 36, .inl (fun _ => 0)))
theorem jbt_tab : ∀ j : Fin 64, ((1 : Int64) <<< ((Int32.ofNat j.val).toInt64 &&& 63)).toBitVec = BitVec.twoPow 64 j.val := by decide +kernel
theorem jbt_shl {k : Int32} (h0 : 0 ≤ k.toInt) (h1 : k.toInt < 64) (n : Nat) : jbt ((1 : Int64) <<< (k.toInt64 &&& 63)) n = decide ((n : Int) = k.toInt) := by
  have h2 : k = Int32.ofNat k.toInt.toNat := by
    apply Int32.toInt_inj.mp
    rw [jn_len (n := k.toInt.toNat) (by omega)]
    omega
  have h3 := jbt_tab ⟨k.toInt.toNat, by omega⟩
  dsimp only at h3
  rw [← h2] at h3
  unfold jbt
  rw [h3, BitVec.getLsbD_twoPow]
  by_cases hn : n = k.toInt.toNat
  · subst hn
    simp only [decide_true, Bool.and_true]
    rw [decide_eq_true (by omega), decide_eq_true (by omega)]
  · rw [decide_eq_false (p := k.toInt.toNat = n) (fun h => hn h.symm), Bool.and_false]
    exact (decide_eq_false (by omega)).symm
theorem jbt_and (x y : Int64) (n : Nat) : jbt (x &&& y) n = (jbt x n && jbt y n) := by
  unfold jbt
  rw [Int64.toBitVec_and, BitVec.getLsbD_and]
theorem jbt_or (x y : Int64) (n : Nat) : jbt (x ||| y) n = (jbt x n || jbt y n) := by
  unfold jbt
  rw [Int64.toBitVec_or, BitVec.getLsbD_or]
theorem jbt_xor (x y : Int64) (n : Nat) : jbt (x ^^^ y) n = (jbt x n ^^ jbt y n) := by
  unfold jbt
  rw [Int64.toBitVec_xor, BitVec.getLsbD_xor]
theorem jbt_zero (n : Nat) : jbt 0 n = false := by
  unfold jbt
  exact BitVec.getLsbD_zero
theorem jbt_ext {x y : Int64} (h : ∀ n, jbt x n = jbt y n) : x = y := by
  apply Int64.toBitVec_inj.mp
  exact BitVec.eq_of_getLsbD_eq (fun i _ => h i)
theorem jbt_one {op b : Int64} {k : Nat} (hb : ∀ n, jbt b n = decide (n = k)) : (op &&& b) = 0 ↔ jbt op k = false := by
  constructor
  · intro h
    have h1 := jbt_and op b k
    rw [h, jbt_zero, hb k, decide_eq_true rfl, Bool.and_true] at h1
    exact h1.symm
  · intro h
    refine jbt_ext (fun n => ?_)
    rw [jbt_and, jbt_zero, hb n]
    by_cases hn : n = k
    · subst hn
      rw [h]
      rfl
    · rw [decide_eq_false hn, Bool.and_false]
theorem jfL.kp {c : Nat} {ks : List Nat} {V V' : jH} {a k : Nat} {y : Int64} (h : jfL V a c k y) (hk : jkc c ks V V') (hm : k ∈ ks) : jfL V' a c k y := by
  obtain ⟨fs, h1, h2⟩ := h
  obtain ⟨fs', h3, h4⟩ := hk a fs h1
  exact ⟨fs', h3, (h4 k hm).trans h2⟩
section JZ
variable {tS : jTS} {M : jM} {d pc : Nat} {ls : List (Option Value)} {st : List Value} {V : jH} {kc ks : Nat} {Q : Option Value → jH → Prop}
theorem Jz_iconst {n : Int} (c : Int) (hd : decode M.2.1 pc = .ok (.iconst n, 1)) (hc : (Int32.ofInt n).toInt = c) (kk : ∀ z : Int32, jEq z.toInt c → J tS M d (pc + 1) ls (.int z :: st) V kc ks Q) : J tS M d pc ls st V kc ks Q := J_iconst hd rfl (kk _ hc)
theorem Jz_bipush {n : Int} (c : Int) (hd : decode M.2.1 pc = .ok (.bipush n, 2)) (hc : ((Int8.ofInt n).toInt32).toInt = c) (kk : ∀ z : Int32, jEq z.toInt c → J tS M d (pc + 2) ls (.int z :: st) V kc ks Q) : J tS M d pc ls st V kc ks Q := J_bipush hd rfl (kk _ hc)
theorem Jz_sipush {n : Int} (c : Int) (hd : decode M.2.1 pc = .ok (.sipush n, 3)) (hc : ((Int16.ofInt n).toInt32).toInt = c) (kk : ∀ z : Int32, jEq z.toInt c → J tS M d (pc + 3) ls (.int z :: st) V kc ks Q) : J tS M d pc ls st V kc ks Q := J_sipush hd rfl (kk _ hc)
theorem Jz_ldc {index : Nat} {v : Int32} (c : Int) (hw : Cond.constant M.1.cls index v ∈ jWG) (hd : decode M.2.1 pc = .ok (.ldc index, 2)) (hc : v.toInt = c) (kk : ∀ z : Int32, jEq z.toInt c → J tS M d (pc + 2) ls (.int z :: st) V kc ks Q) : J tS M d pc ls st V kc ks Q := J_ldc hw hd (kk _ hc)
theorem Jz_iadd {x y : Int32} {A B : Int} (hx : jEq x.toInt A) (hy : jEq y.toInt B) (hd : decode M.2.1 pc = .ok (.iadd, 1)) (h1 : -2147483648 ≤ A + B) (h2 : A + B ≤ 2147483647) (kk : ∀ z : Int32, jEq z.toInt (A + B) → J tS M d (pc + 1) ls (.int z :: st) V kc ks Q) : J tS M d pc ls (.int y :: .int x :: st) V kc ks Q := by
  cases hx
  cases hy
  exact J_iadd hd (kk _ (j_add h1 h2))
theorem Jz_isub {x y : Int32} {A B : Int} (hx : jEq x.toInt A) (hy : jEq y.toInt B) (hd : decode M.2.1 pc = .ok (.isub, 1)) (h1 : -2147483648 ≤ A - B) (h2 : A - B ≤ 2147483647) (kk : ∀ z : Int32, jEq z.toInt (A - B) → J tS M d (pc + 1) ls (.int z :: st) V kc ks Q) : J tS M d pc ls (.int y :: .int x :: st) V kc ks Q := by
  cases hx
  cases hy
  exact J_isub hd (kk _ (j_sub h1 h2))
theorem Jz_imul {x y : Int32} {A B : Int} (hx : jEq x.toInt A) (hy : jEq y.toInt B) (hd : decode M.2.1 pc = .ok (.imul, 1)) (h1 : -2147483648 ≤ A * B) (h2 : A * B ≤ 2147483647) (kk : ∀ z : Int32, jEq z.toInt (A * B) → J tS M d (pc + 1) ls (.int z :: st) V kc ks Q) : J tS M d pc ls (.int y :: .int x :: st) V kc ks Q := by
  cases hx
  cases hy
  exact J_imul hd (kk _ (j_mul h1 h2))
theorem Jz_iaddw {x y : Int32} (hd : decode M.2.1 pc = .ok (.iadd, 1)) (kk : ∀ z : Int32, J tS M d (pc + 1) ls (.int z :: st) V kc ks Q) : J tS M d pc ls (.int y :: .int x :: st) V kc ks Q := J_iadd hd (kk _)
theorem Jz_isubw {x y : Int32} (hd : decode M.2.1 pc = .ok (.isub, 1)) (kk : ∀ z : Int32, J tS M d (pc + 1) ls (.int z :: st) V kc ks Q) : J tS M d pc ls (.int y :: .int x :: st) V kc ks Q := J_isub hd (kk _)
theorem Jz_imulw {x y : Int32} (hd : decode M.2.1 pc = .ok (.imul, 1)) (kk : ∀ z : Int32, J tS M d (pc + 1) ls (.int z :: st) V kc ks Q) : J tS M d pc ls (.int y :: .int x :: st) V kc ks Q := J_imul hd (kk _)
theorem Jz_iandw {x y : Int32} (hd : decode M.2.1 pc = .ok (.iand, 1)) (kk : ∀ z : Int32, J tS M d (pc + 1) ls (.int z :: st) V kc ks Q) : J tS M d pc ls (.int y :: .int x :: st) V kc ks Q := J_iand hd (kk _)
theorem Jz_iorw {x y : Int32} (hd : decode M.2.1 pc = .ok (.ior, 1)) (kk : ∀ z : Int32, J tS M d (pc + 1) ls (.int z :: st) V kc ks Q) : J tS M d pc ls (.int y :: .int x :: st) V kc ks Q := J_ior hd (kk _)
theorem Jz_ixorw {x y : Int32} (hd : decode M.2.1 pc = .ok (.ixor, 1)) (kk : ∀ z : Int32, J tS M d (pc + 1) ls (.int z :: st) V kc ks Q) : J tS M d pc ls (.int y :: .int x :: st) V kc ks Q := J_ixor hd (kk _)
theorem Jz_ishlw {x y : Int32} (hd : decode M.2.1 pc = .ok (.ishl, 1)) (kk : ∀ z : Int32, J tS M d (pc + 1) ls (.int z :: st) V kc ks Q) : J tS M d pc ls (.int y :: .int x :: st) V kc ks Q := J_ishl hd (kk _)
theorem Jz_ishrw {x y : Int32} (hd : decode M.2.1 pc = .ok (.ishr, 1)) (kk : ∀ z : Int32, J tS M d (pc + 1) ls (.int z :: st) V kc ks Q) : J tS M d pc ls (.int y :: .int x :: st) V kc ks Q := J_ishr hd (kk _)
theorem Jz_iushrw {x y : Int32} (hd : decode M.2.1 pc = .ok (.iushr, 1)) (kk : ∀ z : Int32, J tS M d (pc + 1) ls (.int z :: st) V kc ks Q) : J tS M d pc ls (.int y :: .int x :: st) V kc ks Q := J_iushr hd rfl (kk _)
theorem Jz_imulB {x y : Int32} {A B : Int} (C : Int) (hx : jEq x.toInt A) (hy : jEq y.toInt B) (hd : decode M.2.1 pc = .ok (.imul, 1)) (h0 : 0 ≤ A) (h1 : 0 ≤ B) (hB : B ≤ C) (h2 : C * A ≤ 2147483647) (kk : ∀ z : Int32, 0 ≤ z.toInt → z.toInt ≤ C * A → J tS M d (pc + 1) ls (.int z :: st) V kc ks Q) : J tS M d pc ls (.int y :: .int x :: st) V kc ks Q := by
  cases hx
  cases hy
  have h3 : x.toInt * y.toInt ≤ C * x.toInt := by rw [Int.mul_comm C]; exact Int.mul_le_mul_of_nonneg_left hB h0
  have h4 : 0 ≤ x.toInt * y.toInt := Int.mul_nonneg h0 h1
  have h5 := j_mul (x := x) (y := y) (by omega) (by omega)
  exact J_imul hd (kk _ (by omega) (by omega))
theorem Jz_imulM {x y : Int32} {A B : Int} (C : Int) (hx : jEq x.toInt A) (hy : jEq y.toInt B) (hd : decode M.2.1 pc = .ok (.imul, 1)) (h0 : 0 ≤ A) (h1 : 1 ≤ B) (hB : B ≤ C) (h2 : C * A ≤ 2147483647) (kk : ∀ z : Int32, A ≤ z.toInt → z.toInt ≤ C * A → J tS M d (pc + 1) ls (.int z :: st) V kc ks Q) : J tS M d pc ls (.int y :: .int x :: st) V kc ks Q := by
  cases hx
  cases hy
  have h3 : x.toInt * y.toInt ≤ C * x.toInt := by rw [Int.mul_comm C]; exact Int.mul_le_mul_of_nonneg_left hB h0
  have h4 : x.toInt * 1 ≤ x.toInt * y.toInt := Int.mul_le_mul_of_nonneg_left h1 h0
  have h5 := j_mul (x := x) (y := y) (by omega) (by omega)
  exact J_imul hd (kk _ (by omega) (by omega))
theorem Jz_idivw {x y : Int32} {B : Int} (hy : jEq y.toInt B) (hd : decode M.2.1 pc = .ok (.idiv, 1)) (hn : B ≠ 0) (kk : ∀ z : Int32, J tS M d (pc + 1) ls (.int z :: st) V kc ks Q) : J tS M d pc ls (.int y :: .int x :: st) V kc ks Q := by
  cases hy
  exact J_idiv hd (fun h => hn (jI_zero.mp h)) (kk _)
theorem Jz_iremw {x y : Int32} {B : Int} (hy : jEq y.toInt B) (hd : decode M.2.1 pc = .ok (.irem, 1)) (hn : B ≠ 0) (kk : ∀ z : Int32, J tS M d (pc + 1) ls (.int z :: st) V kc ks Q) : J tS M d pc ls (.int y :: .int x :: st) V kc ks Q := by
  cases hy
  exact J_irem hd (fun h => hn (jI_zero.mp h)) (kk _)
theorem Jz_idiv {x y : Int32} {A B : Int} (hx : jEq x.toInt A) (hy : jEq y.toInt B) (hd : decode M.2.1 pc = .ok (.idiv, 1)) (h1 : 0 < B) (h0 : 0 ≤ A) (kk : ∀ z : Int32, 0 ≤ z.toInt → z.toInt ≤ A → J tS M d (pc + 1) ls (.int z :: st) V kc ks Q) : J tS M d pc ls (.int y :: .int x :: st) V kc ks Q := by
  cases hx
  cases hy
  have h2 := jz_div h0 h1
  have h3 : x.toInt / y.toInt ≤ x.toInt := Int.ediv_le_self _ h0
  have h4 : 0 ≤ x.toInt / y.toInt := Int.ediv_nonneg h0 (by omega)
  exact J_idiv hd (fun h => by rw [jI_zero] at h; omega) (kk _ (by omega) (by omega))
theorem Jz_idivC {x y : Int32} {A B : Int} (hx : jEq x.toInt A) (hy : jEq y.toInt B) (hd : decode M.2.1 pc = .ok (.idiv, 1)) (h1 : 0 < B) (h0 : 0 ≤ A) (kk : ∀ z : Int32, jEq z.toInt (A / B) → J tS M d (pc + 1) ls (.int z :: st) V kc ks Q) : J tS M d pc ls (.int y :: .int x :: st) V kc ks Q := by
  cases hx
  cases hy
  exact J_idiv hd (fun h => by rw [jI_zero] at h; omega) (kk _ (jz_div h0 h1))
theorem Jz_irem {x y : Int32} {A B : Int} (hx : jEq x.toInt A) (hy : jEq y.toInt B) (hd : decode M.2.1 pc = .ok (.irem, 1)) (h1 : 0 < B) (h0 : 0 ≤ A) (kk : ∀ z : Int32, 0 ≤ z.toInt → z.toInt < B → J tS M d (pc + 1) ls (.int z :: st) V kc ks Q) : J tS M d pc ls (.int y :: .int x :: st) V kc ks Q := by
  cases hx
  cases hy
  refine J_irem hd (fun h => by rw [jI_zero] at h; omega) (kk _ ?_ ?_)
  · rw [jz_rem h0 h1]; exact Int.emod_nonneg _ (by omega)
  · rw [jz_rem h0 h1]; exact Int.emod_lt_of_pos _ h1
theorem Jz_inegw {x : Int32} (hd : decode M.2.1 pc = .ok (.ineg, 1)) (kk : ∀ z : Int32, J tS M d (pc + 1) ls (.int z :: st) V kc ks Q) : J tS M d pc ls (.int x :: st) V kc ks Q := J_ineg hd (kk _)
theorem Jz_i2bw {x : Int32} (hd : decode M.2.1 pc = .ok (.i2b, 1)) (kk : ∀ z : Int32, J tS M d (pc + 1) ls (.int z :: st) V kc ks Q) : J tS M d pc ls (.int x :: st) V kc ks Q := J_i2b hd rfl (kk _)
theorem Jz_l2iw {x : Int64} (hd : decode M.2.1 pc = .ok (.l2i, 1)) (kk : ∀ z : Int32, J tS M d (pc + 1) ls (.int z :: st) V kc ks Q) : J tS M d pc ls (.long x :: st) V kc ks Q := J_l2i hd rfl (kk _)
theorem Jz_lcmp {x y : Int64} (hd : decode M.2.1 pc = .ok (.lcmp, 1)) (kk : ∀ z : Int32, jLc z x y → J tS M d (pc + 1) ls (.int z :: st) V kc ks Q) : J tS M d pc ls (.long y :: .long x :: st) V kc ks Q := J_lcmp hd (kk _ jLc_of)
theorem Jz_lcmpw {x y : Int64} (hd : decode M.2.1 pc = .ok (.lcmp, 1)) (kk : ∀ z : Int32, J tS M d (pc + 1) ls (.int z :: st) V kc ks Q) : J tS M d pc ls (.long y :: .long x :: st) V kc ks Q := J_lcmp hd (kk _)
theorem Jz_iinc (c : Int) {i : Nat} {n : Int} {x : Int32} (hd : decode M.2.1 pc = .ok (.iinc i n, 3)) (hi : ls[i]? = some (some (.int x))) (hk : jlk ls i = true) (hm : i < M.2.2.1) {A : Int} (hx : jEq x.toInt A) (hc : (Int32.ofInt n).toInt = c) (h1 : -2147483648 ≤ A + c) (h2 : A + c ≤ 2147483647) (kk : ∀ z : Int32, jEq z.toInt (A + c) → J tS M d (pc + 3) (ls.set i (some (.int z))) st V kc ks Q) : J tS M d pc ls st V kc ks Q := by
  cases hx
  exact J_iinc hd hi rfl hk hm (kk _ (by subst hc; exact j_add h1 h2))
theorem Jz_iincw {i : Nat} {n : Int} {x : Int32} (hd : decode M.2.1 pc = .ok (.iinc i n, 3)) (hi : ls[i]? = some (some (.int x))) (hk : jlk ls i = true) (hm : i < M.2.2.1) (kk : ∀ z : Int32, J tS M d (pc + 3) (ls.set i (some (.int z))) st V kc ks Q) : J tS M d pc ls st V kc ks Q := J_iinc hd hi rfl hk hm (kk _)
theorem Jz_if_eq {x : Int32} {off : Int} {tgt : Nat} {A : Int} (hx : jEq x.toInt A) (hd : decode M.2.1 pc = .ok (.ifCond .eq off, 3)) (ht : (pc : Int) + off = (tgt : Int)) (kt : A = 0 → J tS M d tgt ls st V kc ks Q) (kf : ¬ A = 0 → J tS M d (pc + 3) ls st V kc ks Q) : J tS M d pc ls (.int x :: st) V kc ks Q := by
  cases hx
  exact J_if_eq hd ht (fun h => kt (jI_zero.mp h)) (fun h => kf (fun q => h (jI_zero.mpr q)))
theorem Jz_icmp_eq {x y : Int32} {off : Int} {tgt : Nat} {A B : Int} (hx : jEq x.toInt A) (hy : jEq y.toInt B) (hd : decode M.2.1 pc = .ok (.if_icmp .eq off, 3)) (ht : (pc : Int) + off = (tgt : Int)) (kt : A = B → J tS M d tgt ls st V kc ks Q) (kf : ¬ A = B → J tS M d (pc + 3) ls st V kc ks Q) : J tS M d pc ls (.int y :: .int x :: st) V kc ks Q := by
  cases hx
  cases hy
  exact J_icmp_eq hd ht (fun h => kt (jI_inj.mpr h)) (fun h => kf (fun q => h (jI_inj.mp q)))
theorem Jz_if_ne {x : Int32} {off : Int} {tgt : Nat} {A : Int} (hx : jEq x.toInt A) (hd : decode M.2.1 pc = .ok (.ifCond .ne off, 3)) (ht : (pc : Int) + off = (tgt : Int)) (kt : ¬ A = 0 → J tS M d tgt ls st V kc ks Q) (kf : A = 0 → J tS M d (pc + 3) ls st V kc ks Q) : J tS M d pc ls (.int x :: st) V kc ks Q := by
  cases hx
  exact J_if_ne hd ht (fun h => kt (fun q => h (jI_zero.mpr q))) (fun h => kf (jI_zero.mp h))
theorem Jz_icmp_ne {x y : Int32} {off : Int} {tgt : Nat} {A B : Int} (hx : jEq x.toInt A) (hy : jEq y.toInt B) (hd : decode M.2.1 pc = .ok (.if_icmp .ne off, 3)) (ht : (pc : Int) + off = (tgt : Int)) (kt : ¬ A = B → J tS M d tgt ls st V kc ks Q) (kf : A = B → J tS M d (pc + 3) ls st V kc ks Q) : J tS M d pc ls (.int y :: .int x :: st) V kc ks Q := by
  cases hx
  cases hy
  exact J_icmp_ne hd ht (fun h => kt (fun q => h (jI_inj.mp q))) (fun h => kf (jI_inj.mpr h))
theorem Jz_if_lt {x : Int32} {off : Int} {tgt : Nat} {A : Int} (hx : jEq x.toInt A) (hd : decode M.2.1 pc = .ok (.ifCond .lt off, 3)) (ht : (pc : Int) + off = (tgt : Int)) (kt : A < 0 → J tS M d tgt ls st V kc ks Q) (kf : ¬ A < 0 → J tS M d (pc + 3) ls st V kc ks Q) : J tS M d pc ls (.int x :: st) V kc ks Q := by
  cases hx
  exact J_if_lt hd ht (fun h => kt (by have q := jlt.mp h; rw [Int32.toInt_zero] at q; exact q)) (fun h => kf (fun q => h (jlt.mpr (by rw [Int32.toInt_zero]; exact q))))
theorem Jz_icmp_lt {x y : Int32} {off : Int} {tgt : Nat} {A B : Int} (hx : jEq x.toInt A) (hy : jEq y.toInt B) (hd : decode M.2.1 pc = .ok (.if_icmp .lt off, 3)) (ht : (pc : Int) + off = (tgt : Int)) (kt : A < B → J tS M d tgt ls st V kc ks Q) (kf : ¬ A < B → J tS M d (pc + 3) ls st V kc ks Q) : J tS M d pc ls (.int y :: .int x :: st) V kc ks Q := by
  cases hx
  cases hy
  exact J_icmp_lt hd ht (fun h => kt (jlt.mp h)) (fun h => kf (fun q => h (jlt.mpr q)))
theorem Jz_if_ge {x : Int32} {off : Int} {tgt : Nat} {A : Int} (hx : jEq x.toInt A) (hd : decode M.2.1 pc = .ok (.ifCond .ge off, 3)) (ht : (pc : Int) + off = (tgt : Int)) (kt : 0 ≤ A → J tS M d tgt ls st V kc ks Q) (kf : ¬ 0 ≤ A → J tS M d (pc + 3) ls st V kc ks Q) : J tS M d pc ls (.int x :: st) V kc ks Q := by
  cases hx
  exact J_if_ge hd ht (fun h => kt (by have q := jle.mp h; rw [Int32.toInt_zero] at q; exact q)) (fun h => kf (fun q => h (jle.mpr (by rw [Int32.toInt_zero]; exact q))))
theorem Jz_icmp_ge {x y : Int32} {off : Int} {tgt : Nat} {A B : Int} (hx : jEq x.toInt A) (hy : jEq y.toInt B) (hd : decode M.2.1 pc = .ok (.if_icmp .ge off, 3)) (ht : (pc : Int) + off = (tgt : Int)) (kt : B ≤ A → J tS M d tgt ls st V kc ks Q) (kf : ¬ B ≤ A → J tS M d (pc + 3) ls st V kc ks Q) : J tS M d pc ls (.int y :: .int x :: st) V kc ks Q := by
  cases hx
  cases hy
  exact J_icmp_ge hd ht (fun h => kt (jle.mp h)) (fun h => kf (fun q => h (jle.mpr q)))
theorem Jz_if_gt {x : Int32} {off : Int} {tgt : Nat} {A : Int} (hx : jEq x.toInt A) (hd : decode M.2.1 pc = .ok (.ifCond .gt off, 3)) (ht : (pc : Int) + off = (tgt : Int)) (kt : 0 < A → J tS M d tgt ls st V kc ks Q) (kf : ¬ 0 < A → J tS M d (pc + 3) ls st V kc ks Q) : J tS M d pc ls (.int x :: st) V kc ks Q := by
  cases hx
  exact J_if_gt hd ht (fun h => kt (by have q := jlt.mp h; rw [Int32.toInt_zero] at q; exact q)) (fun h => kf (fun q => h (jlt.mpr (by rw [Int32.toInt_zero]; exact q))))
theorem Jz_icmp_gt {x y : Int32} {off : Int} {tgt : Nat} {A B : Int} (hx : jEq x.toInt A) (hy : jEq y.toInt B) (hd : decode M.2.1 pc = .ok (.if_icmp .gt off, 3)) (ht : (pc : Int) + off = (tgt : Int)) (kt : B < A → J tS M d tgt ls st V kc ks Q) (kf : ¬ B < A → J tS M d (pc + 3) ls st V kc ks Q) : J tS M d pc ls (.int y :: .int x :: st) V kc ks Q := by
  cases hx
  cases hy
  exact J_icmp_gt hd ht (fun h => kt (jlt.mp h)) (fun h => kf (fun q => h (jlt.mpr q)))
theorem Jz_if_le {x : Int32} {off : Int} {tgt : Nat} {A : Int} (hx : jEq x.toInt A) (hd : decode M.2.1 pc = .ok (.ifCond .le off, 3)) (ht : (pc : Int) + off = (tgt : Int)) (kt : A ≤ 0 → J tS M d tgt ls st V kc ks Q) (kf : ¬ A ≤ 0 → J tS M d (pc + 3) ls st V kc ks Q) : J tS M d pc ls (.int x :: st) V kc ks Q := by
  cases hx
  exact J_if_le hd ht (fun h => kt (by have q := jle.mp h; rw [Int32.toInt_zero] at q; exact q)) (fun h => kf (fun q => h (jle.mpr (by rw [Int32.toInt_zero]; exact q))))
theorem Jz_icmp_le {x y : Int32} {off : Int} {tgt : Nat} {A B : Int} (hx : jEq x.toInt A) (hy : jEq y.toInt B) (hd : decode M.2.1 pc = .ok (.if_icmp .le off, 3)) (ht : (pc : Int) + off = (tgt : Int)) (kt : A ≤ B → J tS M d tgt ls st V kc ks Q) (kf : ¬ A ≤ B → J tS M d (pc + 3) ls st V kc ks Q) : J tS M d pc ls (.int y :: .int x :: st) V kc ks Q := by
  cases hx
  cases hy
  exact J_icmp_le hd ht (fun h => kt (jle.mp h)) (fun h => kf (fun q => h (jle.mpr q)))
theorem Jz_iald {t a n : Nat} {f : Nat → Int32} {i : Int32} {r : Int × Int} {A : Int} (hx : jEq i.toInt A) (hd : decode M.2.1 pc = .ok (.iaload, 1)) (hV : V a = some (.inl (t, n, .inl f))) (ht : jT[t]? = some .int) (hv : ∀ j, j < n → r.1 ≤ (f j).toInt ∧ (f j).toInt ≤ r.2) (h1 : 0 ≤ A) (h2 : A < (n : Int)) (kk : ∀ x : Int32, f A.toNat = x → r.1 ≤ x.toInt → x.toInt ≤ r.2 → J tS M d (pc + 1) ls (.int x :: st) V kc ks Q) : J tS M d pc ls (.int i :: .ref a :: st) V kc ks Q := by
  cases hx
  have hin : vp_in i n := vp_in_n h1 h2
  have h := hv i.toNatClampNeg (Nat.not_le.mp fun q => hin (Or.inr q))
  exact J_iald hd hV ht hin (kk _ rfl h.1 h.2)
theorem Jz_ialdr {t a n : Nat} {f : Nat → Int32} {i : Int32} {r : Int × Int} {A : Int} (hx : jEq i.toInt A) (hd : decode M.2.1 pc = .ok (.iaload, 1)) (hV : V a = some (.inl (t, n, .inl f))) (ht : jT[t]? = some .int) (hv : ∀ j, j < n → r.1 ≤ (f j).toInt ∧ (f j).toInt ≤ r.2) (h1 : 0 ≤ A) (h2 : A < (n : Int)) (kk : ∀ x : Int32, r.1 ≤ x.toInt → x.toInt ≤ r.2 → J tS M d (pc + 1) ls (.int x :: st) V kc ks Q) : J tS M d pc ls (.int i :: .ref a :: st) V kc ks Q := Jz_iald hx hd hV ht hv h1 h2 (fun x _ h3 h4 => kk x h3 h4)
theorem Jz_ialdw {t a n : Nat} {f : Nat → Int32} {i : Int32} {A : Int} (hx : jEq i.toInt A) (hd : decode M.2.1 pc = .ok (.iaload, 1)) (hV : V a = some (.inl (t, n, .inl f))) (ht : jT[t]? = some .int) (h1 : 0 ≤ A) (h2 : A < (n : Int)) (kk : ∀ x : Int32, J tS M d (pc + 1) ls (.int x :: st) V kc ks Q) : J tS M d pc ls (.int i :: .ref a :: st) V kc ks Q := by
  cases hx
  exact J_iald hd hV ht (vp_in_n h1 h2) (kk _)
theorem Jz_zald {t a n : Nat} {f : Nat → Int32} {i : Int32} {r : Int × Int} {A : Int} (hx : jEq i.toInt A) (hd : decode M.2.1 pc = .ok (.baload, 1)) (hV : V a = some (.inl (t, n, .inl f))) (ht : jT[t]? = some .boolean) (hv : ∀ j, j < n → r.1 ≤ (f j).toInt ∧ (f j).toInt ≤ r.2) (h1 : 0 ≤ A) (h2 : A < (n : Int)) (kk : ∀ x : Int32, f A.toNat = x → r.1 ≤ x.toInt → x.toInt ≤ r.2 → J tS M d (pc + 1) ls (.int x :: st) V kc ks Q) : J tS M d pc ls (.int i :: .ref a :: st) V kc ks Q := by
  cases hx
  have hin : vp_in i n := vp_in_n h1 h2
  have h := hv i.toNatClampNeg (Nat.not_le.mp fun q => hin (Or.inr q))
  exact J_zald hd hV ht hin (kk _ rfl h.1 h.2)
theorem Jz_zaldr {t a n : Nat} {f : Nat → Int32} {i : Int32} {r : Int × Int} {A : Int} (hx : jEq i.toInt A) (hd : decode M.2.1 pc = .ok (.baload, 1)) (hV : V a = some (.inl (t, n, .inl f))) (ht : jT[t]? = some .boolean) (hv : ∀ j, j < n → r.1 ≤ (f j).toInt ∧ (f j).toInt ≤ r.2) (h1 : 0 ≤ A) (h2 : A < (n : Int)) (kk : ∀ x : Int32, r.1 ≤ x.toInt → x.toInt ≤ r.2 → J tS M d (pc + 1) ls (.int x :: st) V kc ks Q) : J tS M d pc ls (.int i :: .ref a :: st) V kc ks Q := Jz_zald hx hd hV ht hv h1 h2 (fun x _ h3 h4 => kk x h3 h4)
theorem Jz_zaldw {t a n : Nat} {f : Nat → Int32} {i : Int32} {A : Int} (hx : jEq i.toInt A) (hd : decode M.2.1 pc = .ok (.baload, 1)) (hV : V a = some (.inl (t, n, .inl f))) (ht : jT[t]? = some .boolean) (h1 : 0 ≤ A) (h2 : A < (n : Int)) (kk : ∀ x : Int32, J tS M d (pc + 1) ls (.int x :: st) V kc ks Q) : J tS M d pc ls (.int i :: .ref a :: st) V kc ks Q := by
  cases hx
  exact J_zald hd hV ht (vp_in_n h1 h2) (kk _)
theorem Jz_bald {t a n : Nat} {f : Nat → Int32} {i : Int32} {r : Int × Int} {A : Int} (hx : jEq i.toInt A) (hd : decode M.2.1 pc = .ok (.baload, 1)) (hV : V a = some (.inl (t, n, .inl f))) (ht : jT[t]? = some .byte) (hv : ∀ j, j < n → r.1 ≤ (f j).toInt ∧ (f j).toInt ≤ r.2) (h1 : 0 ≤ A) (h2 : A < (n : Int)) (kk : ∀ x : Int32, f A.toNat = x → r.1 ≤ x.toInt → x.toInt ≤ r.2 → J tS M d (pc + 1) ls (.int x :: st) V kc ks Q) : J tS M d pc ls (.int i :: .ref a :: st) V kc ks Q := by
  cases hx
  have hin : vp_in i n := vp_in_n h1 h2
  have h := hv i.toNatClampNeg (Nat.not_le.mp fun q => hin (Or.inr q))
  exact J_bald hd hV ht hin (kk _ rfl h.1 h.2)
theorem Jz_baldr {t a n : Nat} {f : Nat → Int32} {i : Int32} {r : Int × Int} {A : Int} (hx : jEq i.toInt A) (hd : decode M.2.1 pc = .ok (.baload, 1)) (hV : V a = some (.inl (t, n, .inl f))) (ht : jT[t]? = some .byte) (hv : ∀ j, j < n → r.1 ≤ (f j).toInt ∧ (f j).toInt ≤ r.2) (h1 : 0 ≤ A) (h2 : A < (n : Int)) (kk : ∀ x : Int32, r.1 ≤ x.toInt → x.toInt ≤ r.2 → J tS M d (pc + 1) ls (.int x :: st) V kc ks Q) : J tS M d pc ls (.int i :: .ref a :: st) V kc ks Q := Jz_bald hx hd hV ht hv h1 h2 (fun x _ h3 h4 => kk x h3 h4)
theorem Jz_baldw {t a n : Nat} {f : Nat → Int32} {i : Int32} {A : Int} (hx : jEq i.toInt A) (hd : decode M.2.1 pc = .ok (.baload, 1)) (hV : V a = some (.inl (t, n, .inl f))) (ht : jT[t]? = some .byte) (h1 : 0 ≤ A) (h2 : A < (n : Int)) (kk : ∀ x : Int32, J tS M d (pc + 1) ls (.int x :: st) V kc ks Q) : J tS M d pc ls (.int i :: .ref a :: st) V kc ks Q := by
  cases hx
  exact J_bald hd hV ht (vp_in_n h1 h2) (kk _)
theorem Jz_lald {t a n : Nat} {f : Nat → Int64} {i : Int32} {A : Int} (hx : jEq i.toInt A) (hd : decode M.2.1 pc = .ok (.laload, 1)) (hV : V a = some (.inl (t, n, .inr (.inl f)))) (ht : jT[t]? = some .long) (h1 : 0 ≤ A) (h2 : A < (n : Int)) (kk : ∀ x : Int64, J tS M d (pc + 1) ls (.long x :: st) V kc ks Q) : J tS M d pc ls (.int i :: .ref a :: st) V kc ks Q := by
  cases hx
  exact J_lald hd hV ht (vp_in_n h1 h2) (kk _)
theorem Jz_last {t a n : Nat} {f : Nat → Int64} {i : Int32} {x : Int64} {p : Nat → Prop} {A : Int} (hx : jEq i.toInt A) (hW : WTx p V) (hp : ¬ p a) (hd : decode M.2.1 pc = .ok (.lastore, 1)) (hV : V a = some (.inl (t, n, .inr (.inl f)))) (ht : jT[t]? = some .long) (hc : jAc t = .inr none) (h1 : 0 ≤ A) (h2 : A < (n : Int)) (kk : ∀ V2 : jH, WTx p V2 → jeff [.inl t] V V2 → J tS M d (pc + 1) ls st V2 kc ks Q) : J tS M d pc ls (.long x :: .int i :: .ref a :: st) V kc ks Q := by
  cases hx
  exact Jw_last hW hp hd hV ht hc (vp_in_n h1 h2) (fun V2 h3 h4 _ => kk V2 h3 h4)
theorem Jz_iast {t a n : Nat} {f : Nat → Int32} {i x : Int32} {r : Int × Int} {p : Nat → Prop} {A : Int} (hx : jEq i.toInt A) {X : Int} (hz : jEq x.toInt X) (hW : WTx p V) (hp : ¬ p a) (hd : decode M.2.1 pc = .ok (.iastore, 1)) (hV : V a = some (.inl (t, n, .inl f))) (ht : jT[t]? = some .int) (hc : jAc t = .inl r) (hi1 : 0 ≤ A) (hi2 : A < (n : Int)) (h1 : r.1 ≤ X) (h2 : X ≤ r.2) (kk : ∀ (V' : jH) (f' : Nat → Int32), WTx p V' → jeff [.inl t] V V' → V' a = some (.inl (t, n, .inl f')) → f' A.toNat = x → (∀ k, k ≠ A.toNat → f' k = f k) → J tS M d (pc + 1) ls st V' kc ks Q) : J tS M d pc ls (.int x :: .int i :: .ref a :: st) V kc ks Q := by
  cases hx
  cases hz
  have h0 := hW a _ hp hV
  refine J_iast hd hV ht (vp_in_n hi1 hi2) (kk _ _ (hW.put hV jrel.arr (fun _ => ⟨h0.1, h0.2.1, ?_⟩)) (jeff.put hV jrel.arr List.mem_cons_self) jup_self (by exact pk_us) (fun k hk => pk_un hk))
  have h3 := h0.2.2
  dsimp only at h3 ⊢
  rw [hc] at h3 ⊢
  obtain ⟨g, hg, h4⟩ := h3
  cases hg
  refine ⟨_, rfl, fun j hj => ?_⟩
  by_cases hq : j = i.toNatClampNeg
  · subst hq
    rw [pk_us]
    exact ⟨h1, h2⟩
  · rw [pk_un hq]
    exact h4 j hj
theorem Jz_iastw {t a n : Nat} {f : Nat → Int32} {i x : Int32} {r : Int × Int} {p : Nat → Prop} {A : Int} (hx : jEq i.toInt A) {X : Int} (hz : jEq x.toInt X) (hW : WTx p V) (hp : ¬ p a) (hd : decode M.2.1 pc = .ok (.iastore, 1)) (hV : V a = some (.inl (t, n, .inl f))) (ht : jT[t]? = some .int) (hc : jAc t = .inl r) (hi1 : 0 ≤ A) (hi2 : A < (n : Int)) (h1 : r.1 ≤ X) (h2 : X ≤ r.2) (kk : ∀ V' : jH, WTx p V' → jeff [.inl t] V V' → J tS M d (pc + 1) ls st V' kc ks Q) : J tS M d pc ls (.int x :: .int i :: .ref a :: st) V kc ks Q := Jz_iast hx hz hW hp hd hV ht hc hi1 hi2 h1 h2 (fun V' _ h3 h4 _ _ _ => kk V' h3 h4)
theorem Jz_zast {t a n : Nat} {f : Nat → Int32} {i x : Int32} {r : Int × Int} {p : Nat → Prop} {A : Int} (hx : jEq i.toInt A) {X : Int} (hz : jEq x.toInt X) (hW : WTx p V) (hp : ¬ p a) (hd : decode M.2.1 pc = .ok (.bastore, 1)) (hV : V a = some (.inl (t, n, .inl f))) (ht : jT[t]? = some .boolean) (hc : jAc t = .inl r) (hi1 : 0 ≤ A) (hi2 : A < (n : Int)) (h1 : r.1 ≤ X) (h2 : X ≤ r.2) (hnr : ∀ q : Int32, q.toInt = X → vp_nar .boolean q = q) (kk : ∀ (V' : jH) (f' : Nat → Int32), WTx p V' → jeff [.inl t] V V' → V' a = some (.inl (t, n, .inl f')) → f' A.toNat = x → (∀ k, k ≠ A.toNat → f' k = f k) → J tS M d (pc + 1) ls st V' kc ks Q) : J tS M d pc ls (.int x :: .int i :: .ref a :: st) V kc ks Q := by
  cases hx
  cases hz
  have h0 := hW a _ hp hV
  refine J_zast hd hV ht (vp_in_n hi1 hi2) (kk _ _ (hW.put hV jrel.arr (fun _ => ⟨h0.1, h0.2.1, ?_⟩)) (jeff.put hV jrel.arr List.mem_cons_self) jup_self (by rw [hnr x rfl]; exact pk_us) (fun k hk => pk_un hk))
  have h3 := h0.2.2
  dsimp only at h3 ⊢
  rw [hc] at h3 ⊢
  obtain ⟨g, hg, h4⟩ := h3
  cases hg
  refine ⟨_, rfl, fun j hj => ?_⟩
  by_cases hq : j = i.toNatClampNeg
  · subst hq
    rw [hnr x rfl]; rw [pk_us]
    exact ⟨h1, h2⟩
  · rw [pk_un hq]
    exact h4 j hj
theorem Jz_zastw {t a n : Nat} {f : Nat → Int32} {i x : Int32} {r : Int × Int} {p : Nat → Prop} {A : Int} (hx : jEq i.toInt A) {X : Int} (hz : jEq x.toInt X) (hW : WTx p V) (hp : ¬ p a) (hd : decode M.2.1 pc = .ok (.bastore, 1)) (hV : V a = some (.inl (t, n, .inl f))) (ht : jT[t]? = some .boolean) (hc : jAc t = .inl r) (hi1 : 0 ≤ A) (hi2 : A < (n : Int)) (h1 : r.1 ≤ X) (h2 : X ≤ r.2) (hnr : ∀ q : Int32, q.toInt = X → vp_nar .boolean q = q) (kk : ∀ V' : jH, WTx p V' → jeff [.inl t] V V' → J tS M d (pc + 1) ls st V' kc ks Q) : J tS M d pc ls (.int x :: .int i :: .ref a :: st) V kc ks Q := Jz_zast hx hz hW hp hd hV ht hc hi1 hi2 h1 h2 hnr (fun V' _ h3 h4 _ _ _ => kk V' h3 h4)
theorem Jz_bast {t a n : Nat} {f : Nat → Int32} {i x : Int32} {r : Int × Int} {p : Nat → Prop} {A : Int} (hx : jEq i.toInt A) {X : Int} (hz : jEq x.toInt X) (hW : WTx p V) (hp : ¬ p a) (hd : decode M.2.1 pc = .ok (.bastore, 1)) (hV : V a = some (.inl (t, n, .inl f))) (ht : jT[t]? = some .byte) (hc : jAc t = .inl r) (hi1 : 0 ≤ A) (hi2 : A < (n : Int)) (h1 : r.1 ≤ X) (h2 : X ≤ r.2) (hnr : ∀ q : Int32, q.toInt = X → vp_nar .byte q = q) (kk : ∀ (V' : jH) (f' : Nat → Int32), WTx p V' → jeff [.inl t] V V' → V' a = some (.inl (t, n, .inl f')) → f' A.toNat = x → (∀ k, k ≠ A.toNat → f' k = f k) → J tS M d (pc + 1) ls st V' kc ks Q) : J tS M d pc ls (.int x :: .int i :: .ref a :: st) V kc ks Q := by
  cases hx
  cases hz
  have h0 := hW a _ hp hV
  refine J_bast hd hV ht (vp_in_n hi1 hi2) (kk _ _ (hW.put hV jrel.arr (fun _ => ⟨h0.1, h0.2.1, ?_⟩)) (jeff.put hV jrel.arr List.mem_cons_self) jup_self (by rw [hnr x rfl]; exact pk_us) (fun k hk => pk_un hk))
  have h3 := h0.2.2
  dsimp only at h3 ⊢
  rw [hc] at h3 ⊢
  obtain ⟨g, hg, h4⟩ := h3
  cases hg
  refine ⟨_, rfl, fun j hj => ?_⟩
  by_cases hq : j = i.toNatClampNeg
  · subst hq
    rw [hnr x rfl]; rw [pk_us]
    exact ⟨h1, h2⟩
  · rw [pk_un hq]
    exact h4 j hj
theorem Jz_bastw {t a n : Nat} {f : Nat → Int32} {i x : Int32} {r : Int × Int} {p : Nat → Prop} {A : Int} (hx : jEq i.toInt A) {X : Int} (hz : jEq x.toInt X) (hW : WTx p V) (hp : ¬ p a) (hd : decode M.2.1 pc = .ok (.bastore, 1)) (hV : V a = some (.inl (t, n, .inl f))) (ht : jT[t]? = some .byte) (hc : jAc t = .inl r) (hi1 : 0 ≤ A) (hi2 : A < (n : Int)) (h1 : r.1 ≤ X) (h2 : X ≤ r.2) (hnr : ∀ q : Int32, q.toInt = X → vp_nar .byte q = q) (kk : ∀ V' : jH, WTx p V' → jeff [.inl t] V V' → J tS M d (pc + 1) ls st V' kc ks Q) : J tS M d pc ls (.int x :: .int i :: .ref a :: st) V kc ks Q := Jz_bast hx hz hW hp hd hV ht hc hi1 hi2 h1 h2 hnr (fun V' _ h3 h4 _ _ _ => kk V' h3 h4)
theorem Jz_putI {index ci k a : Nat} {r : Int × Int} {ty : FieldType} {x : Int32} {fs : List Value} {p : Nat → Prop} (h3 : V a = some (.inr (ci, fs))) (hW : WTx p V) (hp : ¬ p a) (hc : (jFs ci)[k]? = some (.inl r)) (hF : jF M.1.cls index ci k) (hT : jFt ci k false ty) {X : Int} (hz : jEq x.toInt X) (hd : decode M.2.1 pc = .ok (.putfield index, 3)) (h1 : r.1 ≤ X) (h2 : X ≤ r.2) (hn : ∀ q : Int32, q.toInt = X → narrow ty (.int q) = .int q ∧ fits ty (.int q) = true) (kk : ∀ (V' : jH) (fs' : List Value), WTx p V' → jeff [.inr ci] V V' → V' a = some (.inr (ci, fs')) → fs'[k]? = some (.int x) → (∀ j, j ≠ k → fs'[j]? = fs[j]?) → (∀ b : Nat, b ≠ a → V' b = V b) → J tS M d (pc + 3) ls st V' kc ks Q) : J tS M d pc ls (.int x :: .ref a :: st) V kc ks Q := by
  cases hz
  have h4 : jokO V (jFs ci) fs := hW a _ hp h3
  have hl : k < fs.length := by rw [h4.1]; exact (List.getElem?_eq_some_iff.mp hc).1
  exact J_put hF hT hd h3 (hn x rfl).1 (hn x rfl).2 hl (kk _ _ (hW.put h3 (jrel.obj (jokO_nrI h4 hc)) (fun _ => jokO_set h4 hc ⟨x, rfl, h1, h2⟩)) (jeff.put h3 (jrel.obj (jokO_nrI h4 hc)) List.mem_cons_self) jup_self (List.getElem?_set_self hl) (fun j hj => List.getElem?_set_ne (Ne.symm hj)) (fun b hb => jup_ne hb))
theorem Jz_putL {index ci k a : Nat} {ty : FieldType} {x : Int64} {fs : List Value} {p : Nat → Prop} (h3 : V a = some (.inr (ci, fs))) (hW : WTx p V) (hp : ¬ p a) (hc : (jFs ci)[k]? = some (.inr none)) (hF : jF M.1.cls index ci k) (hT : jFt ci k false ty) (hd : decode M.2.1 pc = .ok (.putfield index, 3)) (hn : narrow ty (.long x) = .long x) (hf : fits ty (.long x) = true) (kk : ∀ (V' : jH) (fs' : List Value), WTx p V' → jeff [.inr ci] V V' → V' a = some (.inr (ci, fs')) → fs'[k]? = some (.long x) → (∀ j, j ≠ k → fs'[j]? = fs[j]?) → (∀ b : Nat, b ≠ a → V' b = V b) → J tS M d (pc + 3) ls st V' kc ks Q) : J tS M d pc ls (.long x :: .ref a :: st) V kc ks Q := by
  have h4 : jokO V (jFs ci) fs := hW a _ hp h3
  have hl : k < fs.length := by rw [h4.1]; exact (List.getElem?_eq_some_iff.mp hc).1
  exact J_put hF hT hd h3 hn hf hl (kk _ _ (hW.put h3 (jrel.obj (jokO_nrL h4 hc)) (fun _ => jokO_set h4 hc ⟨x, rfl⟩)) (jeff.put h3 (jrel.obj (jokO_nrL h4 hc)) List.mem_cons_self) jup_self (List.getElem?_set_self hl) (fun j hj => List.getElem?_set_ne (Ne.symm hj)) (fun b hb => jup_ne hb))
end JZ
/-! how many bits are set (Long.bitCount) -/
def jG1 (b : Nat) : Nat := b - ((b / 2) &&& 85)
def jG2 (b : Nat) : Nat := (jG1 b &&& 51) + ((jG1 b / 4) &&& 51)
def jP8 (b : Nat) : Nat := (b.testBit 0).toNat + (b.testBit 1).toNat + (b.testBit 2).toNat + (b.testBit 3).toNat + (b.testBit 4).toNat + (b.testBit 5).toNat + (b.testBit 6).toNat + (b.testBit 7).toNat
theorem jG1_ok : ∀ b, b < 256 → (b / 2) &&& 85 ≤ b ∧ jG1 b < 256 := by decide +kernel
theorem jG1_hi : ∀ b, b < 256 → ∀ t, t < 2 → (b / 2 + 128 * t) &&& 85 = (b / 2) &&& 85 := by decide +kernel
theorem jG2_hi : ∀ b, b < 256 → ∀ t, t < 4 → (b / 4 + 64 * t) &&& 51 = (b / 4) &&& 51 := by decide +kernel
theorem jG2_ok : ∀ b, b < 256 → jG2 b < 256 ∧ jG2 b % 16 < 5 := by decide +kernel
theorem jG3_ok : ∀ b, b < 256 → ∀ t, t < 5 → jG2 b + jG2 b / 16 + 16 * t < 256 ∧ (jG2 b + jG2 b / 16 + 16 * t) &&& 15 = jP8 b := by decide +kernel
theorem jP8_le : ∀ b, b < 256 → jP8 b ≤ 8 := by decide +kernel
theorem jand8 {c m a b : Nat} (hc : c < 256) (hm : m < 256) : (c + 256 * a) &&& (m + 256 * b) = (c &&& m) + 256 * (a &&& b) := by
  apply Nat.eq_of_testBit_eq
  intro i
  rw [Nat.testBit_and, show c + 256 * a = 2 ^ 8 * a + c by omega, show m + 256 * b = 2 ^ 8 * b + m by omega, show (c &&& m) + 256 * (a &&& b) = 2 ^ 8 * (a &&& b) + (c &&& m) by omega, Nat.testBit_two_pow_mul_add _ hc, Nat.testBit_two_pow_mul_add _ hm, Nat.testBit_two_pow_mul_add _ (Nat.lt_of_le_of_lt Nat.and_le_left hc)]
  by_cases h : i < 8
  · simp [h]
  · simp [h]
def jV8 : List Nat → Nat
  | [] => 0
  | c :: cs => c + 256 * jV8 cs
def jM8 (m : Nat) : Nat → Nat
  | 0 => 0
  | k + 1 => m + 256 * jM8 m k
theorem jst1 : ∀ cs : List Nat, (∀ c ∈ cs, c < 256) → (jV8 cs / 2) &&& jM8 85 cs.length ≤ jV8 cs ∧ jV8 cs - ((jV8 cs / 2) &&& jM8 85 cs.length) = jV8 (cs.map jG1)
  | [], _ => ⟨Nat.le_refl _, rfl⟩
  | c :: cs, h => by
    have hc := h c List.mem_cons_self
    obtain ⟨i1, i2⟩ := jst1 cs (fun x hx => h x (List.mem_cons_of_mem _ hx))
    show ((c + 256 * jV8 cs) / 2) &&& (85 + 256 * jM8 85 cs.length) ≤ c + 256 * jV8 cs ∧ c + 256 * jV8 cs - (((c + 256 * jV8 cs) / 2) &&& (85 + 256 * jM8 85 cs.length)) = jG1 c + 256 * jV8 (cs.map jG1)
    have q : (c + 256 * jV8 cs) / 2 = (c / 2 + 128 * (jV8 cs % 2)) + 256 * (jV8 cs / 2) := by omega
    rw [q, jand8 (by omega) (by decide), jG1_hi c hc _ (by omega), ← i2]
    have o := jG1_ok c hc
    unfold jG1 at *
    omega
theorem jst2 : ∀ cs : List Nat, (∀ c ∈ cs, c < 256) → (jV8 cs &&& jM8 51 cs.length) + ((jV8 cs / 4) &&& jM8 51 cs.length) = jV8 (cs.map fun c => (c &&& 51) + ((c / 4) &&& 51))
  | [], _ => rfl
  | c :: cs, h => by
    have hc := h c List.mem_cons_self
    have i2 := jst2 cs (fun x hx => h x (List.mem_cons_of_mem _ hx))
    show ((c + 256 * jV8 cs) &&& (51 + 256 * jM8 51 cs.length)) + (((c + 256 * jV8 cs) / 4) &&& (51 + 256 * jM8 51 cs.length)) = ((c &&& 51) + ((c / 4) &&& 51)) + 256 * jV8 (cs.map fun c => (c &&& 51) + ((c / 4) &&& 51))
    have q : (c + 256 * jV8 cs) / 4 = (c / 4 + 64 * (jV8 cs % 4)) + 256 * (jV8 cs / 4) := by omega
    rw [q, jand8 hc (by decide), jand8 (by omega) (by decide), jG2_hi c hc _ (by omega), ← i2]
    omega
theorem jst3 : ∀ cs : List Nat, (∀ c ∈ cs, c < 256) → (jV8 (cs.map jG2) + jV8 (cs.map jG2) / 16) &&& jM8 15 cs.length = jV8 (cs.map jP8) ∧ jV8 (cs.map jG2) % 16 < 5
  | [], _ => ⟨rfl, by decide⟩
  | c :: cs, h => by
    have hc := h c List.mem_cons_self
    obtain ⟨i1, i2⟩ := jst3 cs (fun x hx => h x (List.mem_cons_of_mem _ hx))
    have o := jG2_ok c hc
    show ((jG2 c + 256 * jV8 (cs.map jG2)) + (jG2 c + 256 * jV8 (cs.map jG2)) / 16) &&& (15 + 256 * jM8 15 cs.length) = jP8 c + 256 * jV8 (cs.map jP8) ∧ (jG2 c + 256 * jV8 (cs.map jG2)) % 16 < 5
    refine ⟨?_, by omega⟩
    have q : (jG2 c + 256 * jV8 (cs.map jG2)) + (jG2 c + 256 * jV8 (cs.map jG2)) / 16 = (jG2 c + jG2 c / 16 + 16 * (jV8 (cs.map jG2) % 16)) + 256 * (jV8 (cs.map jG2) + jV8 (cs.map jG2) / 16) := by omega
    obtain ⟨o1, o2⟩ := jG3_ok c hc _ i2
    rw [q, jand8 o1 (by decide), o2, i1]
theorem jbytes (v : Nat) (h : v < 2 ^ 64) : v = jV8 [v % 256, v / 256 % 256, v / 65536 % 256, v / 16777216 % 256, v / 4294967296 % 256, v / 1099511627776 % 256, v / 281474976710656 % 256, v / 72057594037927936 % 256] := by
  show v = v % 256 + 256 * (v / 256 % 256 + 256 * (v / 65536 % 256 + 256 * (v / 16777216 % 256 + 256 * (v / 4294967296 % 256 + 256 * (v / 1099511627776 % 256 + 256 * (v / 281474976710656 % 256 + 256 * (v / 72057594037927936 % 256 + 256 * 0)))))))
  have h0 : v < 18446744073709551616 := h
  omega
def jsum (t : Nat → Nat) : Nat → Nat
  | 0 => 0
  | n + 1 => jsum t n + t n
def jswar (v : BitVec 64) : BitVec 64 :=
  let a := v - ((v >>> 1) &&& 0x5555555555555555#64)
  let b := (a &&& 0x3333333333333333#64) + ((a >>> 2) &&& 0x3333333333333333#64)
  let c := (b + (b >>> 4)) &&& 0x0f0f0f0f0f0f0f0f#64
  let d := c + (c >>> 8)
  let e := d + (d >>> 16)
  e + (e >>> 32)
theorem jfold {c p0 p1 p2 p3 p4 p5 p6 p7 : Nat} (hc : c = p0 + 256 * (p1 + 256 * (p2 + 256 * (p3 + 256 * (p4 + 256 * (p5 + 256 * (p6 + 256 * (p7 + 256 * 0)))))))) (h0 : p0 ≤ 8) (h1 : p1 ≤ 8) (h2 : p2 ≤ 8) (h3 : p3 ≤ 8) (h4 : p4 ≤ 8) (h5 : p5 ≤ 8) (h6 : p6 ≤ 8) (h7 : p7 ≤ 8) : ∃ d e f : Nat, d = c + c / 256 ∧ e = d + d / 65536 ∧ f = e + e / 4294967296 ∧ d < 18446744073709551616 ∧ e < 18446744073709551616 ∧ f < 18446744073709551616 ∧ f % 128 = p0 + p1 + p2 + p3 + p4 + p5 + p6 + p7 := by
  obtain ⟨y7, e7⟩ : ∃ y, y = p7 := ⟨_, rfl⟩
  obtain ⟨y6, e6⟩ : ∃ y, y = p6 + 256 * y7 := ⟨_, rfl⟩
  obtain ⟨y5, e5⟩ : ∃ y, y = p5 + 256 * y6 := ⟨_, rfl⟩
  obtain ⟨y4, e4⟩ : ∃ y, y = p4 + 256 * y5 := ⟨_, rfl⟩
  obtain ⟨y3, e3⟩ : ∃ y, y = p3 + 256 * y4 := ⟨_, rfl⟩
  obtain ⟨y2, e2⟩ : ∃ y, y = p2 + 256 * y3 := ⟨_, rfl⟩
  obtain ⟨y1, e1⟩ : ∃ y, y = p1 + 256 * y2 := ⟨_, rfl⟩
  have hc : c = p0 + 256 * y1 := by rw [hc, e1, e2, e3, e4, e5, e6, e7, Nat.mul_zero, Nat.add_zero]
  have b7 : y7 ≤ 8 := by omega
  have b6 : y6 ≤ 2056 := by clear hc e5 e4 e3 e2 e1; omega
  have b5 : y5 ≤ 526344 := by clear hc e7 e6 e4 e3 e2 e1; omega
  have b4 : y4 ≤ 134744072 := by clear hc e7 e6 e5 e3 e2 e1; omega
  have b3 : y3 ≤ 34494482440 := by clear hc e7 e6 e5 e4 e2 e1; omega
  have b2 : y2 ≤ 8830587504648 := by clear hc e7 e6 e5 e4 e3 e1; omega
  have b1 : y1 ≤ 2260630401189896 := by clear hc e7 e6 e5 e4 e3 e2; omega
  have b0 : c ≤ 578721382704613384 := by clear e7 e6 e5 e4 e3 e2 e1; omega
  have q1 : c / 256 = y1 := by rw [hc, Nat.add_mul_div_left _ _ (by decide), Nat.div_eq_of_lt (by omega), Nat.zero_add]
  obtain ⟨d, hd⟩ : ∃ d, d = c + y1 := ⟨_, rfl⟩
  have q2 : d / 65536 = y2 + y3 := by
    rw [show d = ((p0 + p1) + 256 * (p1 + p2)) + 65536 * (y2 + y3) by rw [hd, hc, e1, e2]; omega, Nat.add_mul_div_left _ _ (by decide), Nat.div_eq_of_lt (by omega), Nat.zero_add]
  obtain ⟨e, he⟩ : ∃ e, e = d + (y2 + y3) := ⟨_, rfl⟩
  have q3 : e / 4294967296 = y4 + y5 + y6 + y7 := by
    rw [show e = ((p0 + p1 + p2 + p3) + 256 * (p1 + p2 + p3 + p4) + 65536 * ((p2 + p3 + p4 + p5) + 256 * (p3 + p4 + p5 + p6))) + 4294967296 * (y4 + y5 + y6 + y7) by rw [he, hd, hc, e1, e2, e3, e4, e5]; omega, Nat.add_mul_div_left _ _ (by decide), Nat.div_eq_of_lt (by omega), Nat.zero_add]
  refine ⟨d, e, e + (y4 + y5 + y6 + y7), by rw [hd, q1], by rw [he, q2], by rw [q3], by omega, by omega, by omega, ?_⟩
  rw [show e + (y4 + y5 + y6 + y7) = (p0 + p1 + p2 + p3 + p4 + p5 + p6 + p7) + 128 * (2 * ((p1 + p2 + p3 + p4) + 256 * ((p2 + p3 + p4 + p5) + 256 * (p3 + p4 + p5 + p6)) + 16777216 * (y4 + y5 + y6 + y7) + (y5 + y6 + y7))) by rw [he, hd, hc, e1, e2, e3, e4, e5, e6, e7]; omega, Nat.add_mul_mod_self_left, Nat.mod_eq_of_lt (by omega)]
set_option maxHeartbeats 2000000 in
theorem jpop {v : BitVec 64} : (jswar v).toNat % 128 = jsum (fun n => (v.getLsbD n).toNat) 64 := by
  have hv := v.isLt
  have hb := jbytes v.toNat hv
  generalize hcs : [v.toNat % 256, v.toNat / 256 % 256, v.toNat / 65536 % 256, v.toNat / 16777216 % 256, v.toNat / 4294967296 % 256, v.toNat / 1099511627776 % 256, v.toNat / 281474976710656 % 256, v.toNat / 72057594037927936 % 256] = cs at hb
  have hl : cs.length = 8 := by rw [← hcs]; rfl
  have hlt : ∀ c ∈ cs, c < 256 := by
    rw [← hcs]
    intro c hc
    simp only [List.mem_cons, List.not_mem_nil, or_false] at hc
    omega
  -- step 1
  obtain ⟨s1, s1e⟩ := jst1 cs hlt
  have h1 : ∀ c ∈ cs.map jG1, c < 256 := by
    intro c hc
    obtain ⟨x, hx, rfl⟩ := List.mem_map.mp hc
    exact (jG1_ok x (hlt x hx)).2
  have s2 := jst2 (cs.map jG1) h1
  have s3 := (jst3 cs hlt).1
  rw [List.length_map, List.map_map] at s2
  have s2' : (jV8 (cs.map jG1) &&& jM8 51 8) + ((jV8 (cs.map jG1) / 4) &&& jM8 51 8) = jV8 (cs.map jG2) := by rw [← hl]; exact s2
  rw [hl] at s1 s1e s3
  rw [← hb] at s1 s1e
  have hsh : ∀ (x : BitVec 64) (k : Nat), (x >>> k).toNat = x.toNat / 2 ^ k := fun x k => by rw [BitVec.toNat_ushiftRight, Nat.shiftRight_eq_div_pow]
  unfold jswar
  dsimp only
  generalize ha : v - ((v >>> 1) &&& 0x5555555555555555#64) = a
  have ea : a.toNat = jV8 (cs.map jG1) := by
    have h2 : ((v >>> 1) &&& 0x5555555555555555#64).toNat = (v.toNat / 2) &&& jM8 85 8 := by rw [BitVec.toNat_and, hsh]; rfl
    rw [← ha, BitVec.toNat_sub_of_le (by rw [BitVec.le_def, h2]; exact s1), h2, s1e]
  clear ha
  generalize hb2 : (a &&& 0x3333333333333333#64) + ((a >>> 2) &&& 0x3333333333333333#64) = b
  have eb : b.toNat = jV8 (cs.map jG2) := by
    rw [← hb2, BitVec.toNat_add, BitVec.toNat_and, BitVec.toNat_and, hsh, ea, ← s2']
    refine Nat.mod_eq_of_lt ?_
    have q1 : jV8 (cs.map jG1) &&& jM8 51 8 ≤ jM8 51 8 := Nat.and_le_right
    have q2 : jV8 (cs.map jG1) / 4 &&& jM8 51 8 ≤ jM8 51 8 := Nat.and_le_right
    have q3 : jM8 51 8 = 3689348814741910323 := rfl
    show (jV8 (cs.map jG1) &&& jM8 51 8) + (jV8 (cs.map jG1) / 4 &&& jM8 51 8) < 18446744073709551616
    omega
  clear hb2 ea s1 s1e
  generalize hc2 : (b + (b >>> 4)) &&& 0x0f0f0f0f0f0f0f0f#64 = c
  have hbs : jV8 (cs.map jG2) ≤ 2 * jM8 51 8 := by
    rw [← s2']
    have q1 : jV8 (cs.map jG1) &&& jM8 51 8 ≤ jM8 51 8 := Nat.and_le_right
    have q2 : jV8 (cs.map jG1) / 4 &&& jM8 51 8 ≤ jM8 51 8 := Nat.and_le_right
    omega
  have ec : c.toNat = jV8 (cs.map jP8) := by
    have q3 : jM8 51 8 = 3689348814741910323 := rfl
    rw [← hc2, BitVec.toNat_and, BitVec.toNat_add, hsh, eb, Nat.mod_eq_of_lt (show _ < 18446744073709551616 by omega)]
    exact s3
  clear hc2 eb s2 s2'
  have hp : ∀ x : Nat, x ∈ cs → jP8 x ≤ 8 := fun x hx => jP8_le x (hlt x hx)
  rw [← hcs] at ec hp
  have e0 := hp _ (List.mem_cons_self)
  have e1 := hp _ (List.mem_cons_of_mem _ List.mem_cons_self)
  have e2 := hp _ (List.mem_cons_of_mem _ (List.mem_cons_of_mem _ List.mem_cons_self))
  have e3 := hp _ (List.mem_cons_of_mem _ (List.mem_cons_of_mem _ (List.mem_cons_of_mem _ List.mem_cons_self)))
  have e4 := hp _ (List.mem_cons_of_mem _ (List.mem_cons_of_mem _ (List.mem_cons_of_mem _ (List.mem_cons_of_mem _ List.mem_cons_self))))
  have e5 := hp _ (List.mem_cons_of_mem _ (List.mem_cons_of_mem _ (List.mem_cons_of_mem _ (List.mem_cons_of_mem _ (List.mem_cons_of_mem _ List.mem_cons_self)))))
  have e6 := hp _ (List.mem_cons_of_mem _ (List.mem_cons_of_mem _ (List.mem_cons_of_mem _ (List.mem_cons_of_mem _ (List.mem_cons_of_mem _ (List.mem_cons_of_mem _ List.mem_cons_self))))))
  have e7 := hp _ (List.mem_cons_of_mem _ (List.mem_cons_of_mem _ (List.mem_cons_of_mem _ (List.mem_cons_of_mem _ (List.mem_cons_of_mem _ (List.mem_cons_of_mem _ (List.mem_cons_of_mem _ List.mem_cons_self)))))))
  have hbit : ∀ (k d : Nat), d = 2 ^ (8 * k) → jP8 (v.toNat / d % 256) = (v.getLsbD (8 * k)).toNat + (v.getLsbD (8 * k + 1)).toNat + (v.getLsbD (8 * k + 2)).toNat + (v.getLsbD (8 * k + 3)).toNat + (v.getLsbD (8 * k + 4)).toNat + (v.getLsbD (8 * k + 5)).toNat + (v.getLsbD (8 * k + 6)).toNat + (v.getLsbD (8 * k + 7)).toNat := by
    rintro k _ rfl
    have hz : ∀ j, j < 8 → (v.toNat / 2 ^ (8 * k) % 256).testBit j = v.getLsbD (8 * k + j) := fun j hj => by
      rw [show (256 : Nat) = 2 ^ 8 from rfl, Nat.testBit_mod_two_pow, Nat.testBit_div_two_pow, BitVec.getLsbD, Nat.add_comm, decide_eq_true hj, Bool.true_and]
    unfold jP8
    rw [hz 0 (by decide), hz 1 (by decide), hz 2 (by decide), hz 3 (by decide), hz 4 (by decide), hz 5 (by decide), hz 6 (by decide), hz 7 (by decide)]
    rfl
  have b0 := hbit 0 1 rfl
  have b1 := hbit 1 256 rfl
  have b2 := hbit 2 65536 rfl
  have b3 := hbit 3 16777216 rfl
  have b4 := hbit 4 4294967296 rfl
  have b5 := hbit 5 1099511627776 rfl
  have b6 := hbit 6 281474976710656 rfl
  have b7 := hbit 7 72057594037927936 rfl
  rw [Nat.div_one] at b0
  have hs : jsum (fun n => (v.getLsbD n).toNat) 64 = jP8 (v.toNat % 256) + jP8 (v.toNat / 256 % 256) + jP8 (v.toNat / 65536 % 256) + jP8 (v.toNat / 16777216 % 256) + jP8 (v.toNat / 4294967296 % 256) + jP8 (v.toNat / 1099511627776 % 256) + jP8 (v.toNat / 281474976710656 % 256) + jP8 (v.toNat / 72057594037927936 % 256) := by
    rw [b0, b1, b2, b3, b4, b5, b6, b7]
    simp only [jsum, Nat.zero_add, Nat.mul_zero, Nat.reduceMul, Nat.reduceAdd, ← Nat.add_assoc]
  rw [hs]
  simp only [List.map, jV8] at ec
  clear hs b0 b1 b2 b3 b4 b5 b6 b7 hbit hp hcs hl hlt h1 s3 hb hbs
  generalize jP8 (v.toNat % 256) = p0 at *
  generalize jP8 (v.toNat / 256 % 256) = p1 at *
  generalize jP8 (v.toNat / 65536 % 256) = p2 at *
  generalize jP8 (v.toNat / 16777216 % 256) = p3 at *
  generalize jP8 (v.toNat / 4294967296 % 256) = p4 at *
  generalize jP8 (v.toNat / 1099511627776 % 256) = p5 at *
  generalize jP8 (v.toNat / 281474976710656 % 256) = p6 at *
  generalize jP8 (v.toNat / 72057594037927936 % 256) = p7 at *
  obtain ⟨d, e, f, hd, he, hf, ld, le, lf, hr⟩ := jfold (ec.trans rfl) e0 e1 e2 e3 e4 e5 e6 e7
  have g1 : (c + (c >>> 8)).toNat = d := by
    rw [BitVec.toNat_add, hsh, hd]
    exact Nat.mod_eq_of_lt (by rw [hd] at ld; exact ld)
  have g2 : (c + (c >>> 8) + ((c + (c >>> 8)) >>> 16)).toNat = e := by
    rw [BitVec.toNat_add, hsh, g1, he]
    exact Nat.mod_eq_of_lt (by rw [he] at le; exact le)
  rw [BitVec.toNat_add, hsh, g2]
  refine Eq.trans (congrArg (· % 128) (Nat.mod_eq_of_lt ?_)) ?_
  · rw [hf] at lf
    exact lf
  · rw [← hr, hf]
theorem jsum_add (t : Nat → Nat) (n : Nat) : ∀ m, jsum t (n + m) = jsum t n + jsum (fun i => t (n + i)) m
  | 0 => rfl
  | m + 1 => by
    show jsum t (n + m) + t (n + m) = jsum t n + (jsum (fun i => t (n + i)) m + t (n + m))
    rw [jsum_add t n m, Nat.add_assoc]
theorem jsum_zero {t : Nat → Nat} : ∀ n, (∀ i, i < n → t i = 0) → jsum t n = 0
  | 0, _ => rfl
  | n + 1, h => by
    show jsum t n + t n = 0
    rw [jsum_zero n (fun i hi => h i (by omega)), h n (by omega)]
theorem jsum_congr {t u : Nat → Nat} : ∀ n, (∀ i, i < n → t i = u i) → jsum t n = jsum u n
  | 0, _ => rfl
  | n + 1, h => by
    show jsum t n + t n = jsum u n + u n
    rw [jsum_congr n (fun i hi => h i (by omega)), h n (by omega)]
theorem jcn_add (c : Int) (F : Nat → Int32) (n : Nat) : ∀ m, jcn c F (n + m) = jcn c F n + jsum (fun i => if (F (n + i)).toInt = c then 0 else 1) m
  | 0 => rfl
  | m + 1 => by
    show jcn c F (n + m) + (if (F (n + m)).toInt = c then 0 else 1) = jcn c F n + (jsum (fun i => if (F (n + i)).toInt = c then 0 else 1) m + (if (F (n + m)).toInt = c then 0 else 1))
    rw [jcn_add c F n m, Nat.add_assoc]
/-- as many bits as places that are no holes -/
theorem jopen_sum {T : Nat → Bool} {H : Nat → Int32} {w h : Nat} (hw : w ≤ 6) (hh : h ≤ 6) (hH : ∀ k, k < w * h → 0 ≤ (H k).toInt ∧ (H k).toInt ≤ 1) (hb : ∀ n : Nat, T n = true ↔ ∃ a b : Nat, (a < w ∧ b < h) ∧ n = 9 + a + 8 * b ∧ (H (a + w * b)).toInt = 0) : jsum (fun n => (T n).toNat) 64 = jcn 1 H (w * h) := by
  have off : ∀ n, (¬ ∃ a b : Nat, (a < w ∧ b < h) ∧ n = 9 + a + 8 * b) → (T n).toNat = 0 := fun n hn => by
    cases hT : T n with
    | false => rfl
    | true =>
      obtain ⟨a, b, q, e, -⟩ := (hb n).mp hT
      exact absurd ⟨a, b, q, e⟩ hn
  have on : ∀ a b, a < w → b < h → (T (9 + a + 8 * b)).toNat = if (H (w * b + a)).toInt = 1 then 0 else 1 := fun a b ha hb2 => by
    have hlt : w * b + a < w * h := by
      have h1 : w * (b + 1) ≤ w * h := Nat.mul_le_mul_left _ hb2
      rw [Nat.mul_add, Nat.mul_one] at h1
      omega
    have h2 := hH _ hlt
    cases hT : T (9 + a + 8 * b) with
    | false =>
      rw [if_pos]
      · rfl
      · have h3 : ¬ (H (w * b + a)).toInt = 0 := fun z => by
          have h4 := (hb (9 + a + 8 * b)).mpr ⟨a, b, ⟨ha, hb2⟩, rfl, by rw [Nat.add_comm]; exact z⟩
          rw [hT] at h4
          cases h4
        omega
    | true =>
      obtain ⟨a2, b2, q, e, z⟩ := (hb _).mp hT
      have h3 : a2 = a := by omega
      have h4 : b2 = b := by omega
      subst h3
      subst h4
      rw [Nat.add_comm] at z
      rw [if_neg (by omega)]
      rfl
  have key : ∀ b, b ≤ h → jsum (fun n => (T n).toNat) (8 * (b + 1)) = jcn 1 H (w * b) := by
    intro b
    induction b with
    | zero =>
      intro _
      rw [Nat.mul_zero]
      exact jsum_zero _ (fun i hi => off i (fun ⟨a, b, q, e⟩ => by omega))
    | succ b ih =>
      intro hb2
      have e1 : 8 * (b + 1 + 1) = 8 * (b + 1) + (1 + (w + (7 - w))) := by omega
      rw [e1, jsum_add, ih (by omega), jsum_add, jsum_add, show w * (b + 1) = w * b + w by rw [Nat.mul_add, Nat.mul_one], jcn_add]
      rw [jsum_zero 1 (fun i hi => off _ (fun ⟨a, b, q, e⟩ => by omega)), jsum_zero (7 - w) (fun i hi => off _ (fun ⟨a, b, q, e⟩ => by omega)), Nat.zero_add, Nat.add_zero]
      refine congrArg _ (jsum_congr w (fun a ha => ?_))
      rw [← on a b ha (by omega)]
      refine congrArg (fun z => (T z).toNat) ?_
      omega
  rw [show 64 = 8 * (h + 1) + (56 - 8 * h) by omega, jsum_add, key h (Nat.le_refl _), jsum_zero (56 - 8 * h) (fun i hi => off _ (fun ⟨a, b, q, e⟩ => by omega)), Nat.add_zero]
abbrev jlsr (x : Int64) (k : Int32) : Int64 := (x.toUInt64 >>> (k.toInt64.toUInt64 &&& Int64.toUInt64 63)).toInt64
theorem jlsr_bv (x : Int64) (k : Int32) (n : Nat) (hn : n < 64) (hk : k.toInt64.toUInt64 &&& Int64.toUInt64 63 = UInt64.ofNat n) : (jlsr x k).toBitVec = x.toBitVec >>> n := by
  unfold jlsr
  rw [hk]
  show (x.toUInt64 >>> UInt64.ofNat n).toBitVec = x.toUInt64.toBitVec >>> n
  rw [UInt64.toBitVec_shiftRight]
  apply BitVec.eq_of_toNat_eq
  rw [BitVec.toNat_ushiftRight]
  show _ >>> (UInt64.ofNat n % 64).toNat = _
  rw [UInt64.toNat_mod, UInt64.toNat_ofNat']
  show _ >>> (n % 18446744073709551616 % 64) = _
  rw [Nat.mod_eq_of_lt (show n < 18446744073709551616 by omega), Nat.mod_eq_of_lt hn]
def jswr (x : Int64) : Int64 :=
  let a := x - (jlsr x 1 &&& (6148914691236517205 : Int64))
  let b := (a &&& (3689348814741910323 : Int64)) + (jlsr a 2 &&& (3689348814741910323 : Int64))
  let c := (b + jlsr b 4) &&& (1085102592571150095 : Int64)
  let d := c + jlsr c 8
  let e := d + jlsr d 16
  e + jlsr e 32
theorem jswr_bv (x : Int64) : (jswr x).toBitVec = jswar x.toBitVec := by
  unfold jswr jswar
  dsimp only
  simp only [Int64.toBitVec_add, Int64.toBitVec_sub, Int64.toBitVec_and, jlsr_bv _ 1 1 (by decide) (by decide), jlsr_bv _ 2 2 (by decide) (by decide), jlsr_bv _ 4 4 (by decide) (by decide), jlsr_bv _ 8 8 (by decide) (by decide), jlsr_bv _ 16 16 (by decide) (by decide), jlsr_bv _ 32 32 (by decide) (by decide)]
  rfl
theorem jsum_le {t : Nat → Nat} : ∀ n, (∀ i, i < n → t i ≤ 1) → jsum t n ≤ n
  | 0, _ => Nat.le_refl _
  | n + 1, h => by
    have h1 := jsum_le n (fun i hi => h i (by omega))
    have h2 := h n (by omega)
    show jsum t n + t n ≤ n + 1
    omega
theorem jbc (x : Int64) : ((jswr x).toInt32 &&& 127).toInt = ((jsum (fun n => (jbt x n).toNat) 64 : Nat) : Int) := by
  show _ = ((jsum (fun n => (x.toBitVec.getLsbD n).toNat) 64 : Nat) : Int)
  have h1 := jpop (v := x.toBitVec)
  rw [← jswr_bv] at h1
  have h2 := jsum_le (t := fun n => (x.toBitVec.getLsbD n).toNat) 64 (fun i _ => by cases x.toBitVec.getLsbD i <;> decide)
  have h3 : ((jswr x).toInt32 &&& 127).toBitVec.toNat = (jswr x).toBitVec.toNat % 128 := by
    rw [Int32.toBitVec_and, BitVec.toNat_and]
    show ((jswr x).toInt32.toBitVec.toNat) &&& 127 = _
    rw [show (127 : Nat) = 2 ^ 7 - 1 from rfl, Nat.and_two_pow_sub_one_eq_mod]
    show ((jswr x).toInt32.toBitVec.toNat) % 128 = _
    have h4 : (jswr x).toInt32.toBitVec.toNat = (jswr x).toBitVec.toNat % 4294967296 := by
      have h5 : (jswr x).toInt32.toBitVec = (jswr x).toBitVec.signExtend 32 := Int64.toBitVec_toInt32 _
      rw [h5, BitVec.signExtend_eq_setWidth_of_le _ (by decide), BitVec.toNat_setWidth]
    rw [h4]
    omega
  have h6 : ((jswr x).toInt32 &&& 127).toInt = ((((jswr x).toInt32 &&& 127).toBitVec.toNat : Nat) : Int) := by
    show ((jswr x).toInt32 &&& 127).toBitVec.toInt = _
    rw [BitVec.toInt_eq_toNat_of_lt]
    rw [h3]
    omega
  rw [h6, h3, h1]
