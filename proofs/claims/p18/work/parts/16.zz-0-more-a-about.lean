/-! about -/
/-- hidden from omega -/
def jHd (P : Prop) : Prop := P
theorem jHd.elim {A B C : Prop} (h : jHd (A ∨ B)) (a : A → C) (b : B → C) : C := Or.elim h a b
noncomputable def jpb (P : Prop) : Int := @ite _ P (Classical.propDecidable P) 1 0
theorem jpb_yes {P : Prop} (h : P) : jpb P = 1 := @if_pos _ (Classical.propDecidable P) h _ _ _
theorem jpb_no {P : Prop} (h : ¬ P) : jpb P = 0 := @if_neg _ (Classical.propDecidable P) h _ _ _
theorem jpb_iff {P Q : Prop} (h : P ↔ Q) : jpb P = jpb Q := by rw [propext h]
noncomputable def jct (P : Nat → Prop) : Nat → Int
  | 0 => 0
  | k + 1 => jct P k + jpb (P k)
theorem jct_yes {P : Nat → Prop} {k : Nat} (h : P k) : jct P (k + 1) = jct P k + 1 := by
  show jct P k + jpb (P k) = _
  rw [jpb_yes h]
theorem jct_no {P : Nat → Prop} {k : Nat} (h : ¬ P k) : jct P (k + 1) = jct P k := by
  show jct P k + jpb (P k) = _
  rw [jpb_no h, Int.add_zero]
theorem jct_congr {P Q : Nat → Prop} : ∀ n : Nat, (∀ k, k < n → (P k ↔ Q k)) → jct P n = jct Q n
  | 0, _ => rfl
  | n + 1, h => by
    show jct P n + jpb (P n) = jct Q n + jpb (Q n)
    rw [jct_congr n (fun k hk => h k (by omega)), jpb_iff (h n (by omega))]
theorem jct_b {P : Nat → Prop} : ∀ n : Nat, 0 ≤ jct P n ∧ jct P n ≤ (n : Int)
  | 0 => ⟨Int.le_refl _, Int.le_refl _⟩
  | n + 1 => by
    have h := jct_b (P := P) n
    by_cases q : P n
    · rw [jct_yes q]; omega
    · rw [jct_no q]; omega
def jsq (g x y z : Int) : Int := x * x + y * y + z * z + (if g = 1 then x * y else 0)
theorem jmul128 {x y : Int} (hx : -128 ≤ x ∧ x ≤ 128) (hy : -128 ≤ y ∧ y ≤ 128) : -16384 ≤ x * y ∧ x * y ≤ 16384 := by
  have h1 := Int.mul_nonneg (show 0 ≤ 128 - x by omega) (show 0 ≤ 128 + y by omega)
  have h2 := Int.mul_nonneg (show 0 ≤ 128 + x by omega) (show 0 ≤ 128 - y by omega)
  have h3 := Int.mul_nonneg (show 0 ≤ 128 - x by omega) (show 0 ≤ 128 - y by omega)
  have h4 := Int.mul_nonneg (show 0 ≤ 128 + x by omega) (show 0 ≤ 128 + y by omega)
  simp only [Int.sub_mul, Int.mul_sub, Int.add_mul, Int.mul_add] at h1 h2 h3 h4
  omega
theorem jsq_one {x : Int} (h : x * x ≤ 1) : -1 ≤ x ∧ x ≤ 1 := by
  refine ⟨(Int.decLe (-1) x).byCases id (fun q => ?_), (Int.decLe x 1).byCases id (fun q => ?_)⟩
  · have := Int.mul_le_mul (show 2 ≤ -x by omega) (show 2 ≤ -x by omega) (by omega) (by omega)
    rw [Int.neg_mul_neg] at this
    omega
  · have := Int.mul_le_mul (show 2 ≤ x by omega) (show 2 ≤ x by omega) (by omega) (by omega)
    omega
theorem jsq_nn (x : Int) : 0 ≤ x * x := by
  rcases Int.le_total 0 x with h | h
  · exact Int.mul_nonneg h h
  · rw [← Int.neg_mul_neg]
    exact Int.mul_nonneg (by omega) (by omega)
theorem jsq_b1 {g x y z : Int} (h : jsq g x y z = 1) : (-1 ≤ x ∧ x ≤ 1) ∧ (-1 ≤ y ∧ y ≤ 1) ∧ (-1 ≤ z ∧ z ≤ 1) := by
  unfold jsq at h
  have hx := jsq_nn x
  have hy := jsq_nn y
  have hz := jsq_nn z
  by_cases hg : g = 1
  · rw [if_pos hg] at h
    have h1 := jsq_nn (2 * x + y)
    have h2 := jsq_nn (2 * y + x)
    have h3 := Int.mul_comm x y
    simp only [Int.add_mul, Int.mul_add, Int.mul_assoc] at h1 h2
    rw [Int.mul_left_comm x 2 x, Int.mul_left_comm x 2 y] at *
    rw [Int.mul_left_comm y 2 x, Int.mul_left_comm y 2 y] at *
    exact ⟨jsq_one (by omega), jsq_one (by omega), jsq_one (by omega)⟩
  · rw [if_neg hg] at h
    exact ⟨jsq_one (by omega), jsq_one (by omega), jsq_one (by omega)⟩
theorem jring_iff {g x y z : Int} (hg : 0 ≤ g ∧ g ≤ 3) (hz : ¬ g = 3 → z = 0) : (jsq g x y z = 1 ∧ (¬ g = 2 ∨ 0 ≤ y)) ↔ ∃ d : Nat, (d : Int) < jdir g ∧ x + jsx g d = 0 ∧ y + jsy g d (x + y) = 0 ∧ z + jsz g d = 0 := by
  constructor
  · rintro ⟨h1, h2⟩
    obtain ⟨hx, hy, hz1⟩ := jsq_b1 h1
    have hx3 : x = -1 ∨ x = 0 ∨ x = 1 := by omega
    have hy3 : y = -1 ∨ y = 0 ∨ y = 1 := by omega
    have hz3 : z = -1 ∨ z = 0 ∨ z = 1 := by omega
    have hg3 : g = 0 ∨ g = 1 ∨ g = 2 ∨ g = 3 := by omega
    rcases hg3 with rfl | rfl | rfl | rfl <;> rcases hx3 with rfl | rfl | rfl <;> rcases hy3 with rfl | rfl | rfl <;> rcases hz3 with rfl | rfl | rfl <;>
      first
      | exact absurd h1 (by decide)
      | exact absurd h2 (by decide)
      | exact absurd (hz (by decide)) (by decide)
      | exact ⟨0, by decide⟩
      | exact ⟨1, by decide⟩
      | exact ⟨2, by decide⟩
      | exact ⟨3, by decide⟩
      | exact ⟨4, by decide⟩
      | exact ⟨5, by decide⟩
  · rintro ⟨d, hd, h1, h2, h3⟩
    have hg3 : g = 0 ∨ g = 1 ∨ g = 2 ∨ g = 3 := by omega
    have hd6 : d = 0 ∨ d = 1 ∨ d = 2 ∨ d = 3 ∨ d = 4 ∨ d = 5 := by have := jdir_cases g; omega
    have hdb := jdir_cases g
    unfold jsx at h1
    unfold jsy at h2
    unfold jsz at h3
    have hxyz : (x = -1 ∨ x = 0 ∨ x = 1) ∧ (y = -1 ∨ y = 0 ∨ y = 1) ∧ (z = -1 ∨ z = 0 ∨ z = 1) := by
      refine ⟨?_, ?_, ?_⟩
      · clear h2 h3; (repeat' split at h1) <;> omega
      · clear h1 h3; (repeat' split at h2) <;> omega
      · clear h1 h2; (repeat' split at h3) <;> omega
    obtain ⟨hx3, hy3, hz3⟩ := hxyz
    rcases hg3 with rfl | rfl | rfl | rfl <;> rcases hd6 with rfl | rfl | rfl | rfl | rfl | rfl <;> first | exact absurd hd (by decide) | (rcases hx3 with rfl | rfl | rfl <;> rcases hy3 with rfl | rfl | rfl <;> rcases hz3 with rfl | rfl | rfl <;> first | exact absurd h1 (by decide) | exact absurd h2 (by decide) | exact absurd h3 (by decide) | decide)
theorem jPt_z {g : Int} {T : Nat → Int} (hg : ¬ g = 3) : ∀ i : Nat, (jPt g T i).2.2 = 0
  | 0 => rfl
  | i + 1 => by
    show (jPt g T i).2.2 + jsz g (T i) = 0
    rw [jPt_z hg i, show jsz g (T i) = 0 from if_neg hg]
    rfl
theorem jstep_nz {g d s : Int} (hg : 0 ≤ g ∧ g ≤ 3) (h0 : 0 ≤ d) (h1 : d < jdir g) : ¬ (jsx g d = 0 ∧ jsy g d s = 0 ∧ jsz g d = 0) := by
  have hdb := jdir_cases g
  rintro ⟨q1, q2, q3⟩
  unfold jsx at q1
  unfold jsy at q2
  unfold jsz at q3
  have hg3 : g = 0 ∨ g = 1 ∨ g = 2 ∨ g = 3 := by omega
  have hd6 : d = 0 ∨ d = 1 ∨ d = 2 ∨ d = 3 ∨ d = 4 ∨ d = 5 := by omega
  rcases hg3 with rfl | rfl | rfl | rfl <;> rcases hd6 with rfl | rfl | rfl | rfl | rfl | rfl <;> first | exact absurd h1 (by decide) | exact absurd q1 (by decide) | exact absurd q3 (by decide) | exact absurd q2 (by decide) | (revert q2; split <;> split <;> intro q2 <;> omega) | (revert q2; (repeat' split) <;> intro q2 <;> omega)
def jar (X Y : Nat → Int32) : Nat → Int32
  | 0 => 0
  | k + 1 => jar X Y k + (X k * Y (k + 1) - X (k + 1) * Y k)
theorem jar_congr {X Y X2 Y2 : Nat → Int32} : ∀ n : Nat, (∀ k, k ≤ n → X k = X2 k ∧ Y k = Y2 k) → jar X Y n = jar X2 Y2 n
  | 0, _ => rfl
  | n + 1, h => by
    show jar X Y n + (X n * Y (n + 1) - X (n + 1) * Y n) = jar X2 Y2 n + (X2 n * Y2 (n + 1) - X2 (n + 1) * Y2 n)
    rw [jar_congr n (fun k hk => h k (by omega)), (h n (by omega)).1, (h n (by omega)).2, (h (n + 1) (by omega)).1, (h (n + 1) (by omega)).2]
theorem jI_z0 (s a b : Int32) : s + (a * 0 - 0 * b) = s := by
  apply Int32.toBitVec_inj.mp
  rw [Int32.toBitVec_add, Int32.toBitVec_sub, Int32.toBitVec_mul, Int32.toBitVec_mul]
  show s.toBitVec + (a.toBitVec * 0#32 - 0#32 * b.toBitVec) = s.toBitVec
  rw [BitVec.mul_zero, BitVec.zero_mul, BitVec.sub_zero, BitVec.add_zero]
def jab (v : Int32) : Int32 := if 0 ≤ v then v else 0 - v
def jbn (S : Nat → Int32) : Nat → Int
  | 0 => 0
  | 1 => 0
  | k + 2 => jbn S (k + 1) + (if (S (k + 1)).toInt = (S k).toInt then 0 else 1)
theorem jbn_step {S : Nat → Int32} {i : Nat} (h : 1 ≤ i) : jbn S (i + 1) = jbn S i + (if (S i).toInt = (S (i - 1)).toInt then 0 else 1) := by
  obtain ⟨k, rfl⟩ : ∃ k, i = k + 1 := ⟨i - 1, by omega⟩
  rfl
theorem jbn_b {S : Nat → Int32} : ∀ n : Nat, 0 ≤ jbn S n ∧ jbn S n ≤ (n : Int)
  | 0 => ⟨Int.le_refl _, Int.le_refl _⟩
  | 1 => ⟨Int.le_refl _, (by show (0 : Int) ≤ 1; decide)⟩
  | n + 2 => by
    have h := jbn_b (S := S) (n + 1)
    rw [jbn_step (show 1 ≤ n + 1 by omega)]
    split <;> omega
theorem jbn_congr {S S2 : Nat → Int32} : ∀ n : Nat, (∀ k, k < n → S k = S2 k) → jbn S n = jbn S2 n
  | 0, _ => rfl
  | 1, _ => rfl
  | n + 2, h => by
    rw [jbn_step (show 1 ≤ n + 1 by omega), jbn_step (show 1 ≤ n + 1 by omega), jbn_congr (n + 1) (fun k hk => h k (by omega)), h (n + 1) (by omega), h (n + 1 - 1) (by omega)]
abbrev jfree (g : Int) (n : Nat) (X Y Z : Nat → Int32) (d : Int) : Prop := ∀ j : Nat, j ≤ n → ¬ ((X j).toInt = (X n).toInt + jsx g d ∧ (Y j).toInt = (Y n).toInt + jsy g d ((X n).toInt + (Y n).toInt) ∧ (Z j).toInt = (Z n).toInt + jsz g d)
abbrev jbrg (n : Nat) (X : Nat → Int32) : Prop := ∀ j : Nat, 1 ≤ j → j ≤ n → 0 < (X j).toInt ∧ (X j).toInt ≤ (X n).toInt
abbrev jrngP (g n : Int) (X Y Z : Nat → Int32) : Prop := 2 ≤ n ∧ jsq g (X n.toNat).toInt (Y n.toNat).toInt (Z n.toNat).toInt = 1 ∧ (¬ g = 2 ∨ 0 ≤ (Y n.toNat).toInt)
noncomputable def jab8 (g n : Int) (S X Y Z : Nat → Int32) (w : Int) : Int :=
  if w = 0 then g else if w = 1 then n else if w = 2 then jsq g (X n.toNat).toInt (Y n.toNat).toInt (Z n.toNat).toInt
  else if w = 3 then jpb (jrngP g n X Y Z) else if w = 4 then (if jpb (jrngP g n X Y Z) = 1 ∧ ¬ g = 3 then (jab (jar X Y n.toNat)).toInt else -1)
  else if w = 5 then jbn S n.toNat else if w = 6 then jpb (jbrg n.toNat X) else jct (fun d => jfree g n.toNat X Y Z d) (jdir g).toNat
theorem jab8_4 {g n : Int} {S X Y Z : Nat → Int32} : jab8 g n S X Y Z 4 = (if jpb (jrngP g n X Y Z) = 1 ∧ ¬ g = 3 then (jab (jar X Y n.toNat)).toInt else -1) := rfl
theorem jab8_congr {g n : Int} {S X Y Z S2 X2 Y2 Z2 : Nat → Int32} (h : ∀ j : Nat, j < n.toNat → S j = S2 j) (h2 : ∀ j : Nat, j ≤ n.toNat → X j = X2 j ∧ Y j = Y2 j ∧ Z j = Z2 j) (w : Int) : jab8 g n S X Y Z w = jab8 g n S2 X2 Y2 Z2 w := by
  have hn := h2 n.toNat (Nat.le_refl _)
  unfold jab8
  rw [jbn_congr n.toNat h, jar_congr n.toNat (fun k hk => ⟨(h2 k hk).1, (h2 k hk).2.1⟩)]
  rw [jct_congr (P := fun d => jfree g n.toNat X Y Z d) (Q := fun d => jfree g n.toNat X2 Y2 Z2 d) (jdir g).toNat (fun d _ => by
    constructor
    · intro q j hj z
      refine q j hj ?_
      rw [(h2 j hj).1, (h2 j hj).2.1, (h2 j hj).2.2, hn.1, hn.2.1, hn.2.2]
      exact z
    · intro q j hj z
      refine q j hj ?_
      rw [← (h2 j hj).1, ← (h2 j hj).2.1, ← (h2 j hj).2.2, ← hn.1, ← hn.2.1, ← hn.2.2]
      exact z)]
  rw [jpb_iff (P := jbrg n.toNat X) (Q := jbrg n.toNat X2) ⟨fun q j h1 hj => by rw [← (h2 j hj).1, ← hn.1]; exact q j h1 hj, fun q j h1 hj => by rw [(h2 j hj).1, hn.1]; exact q j h1 hj⟩]
  unfold jrngP
  rw [hn.1, hn.2.1, hn.2.2]
theorem jrv.same {g : Int} {T U : Nat → Int} {n : Nat} {X Y Z X2 Y2 Z2 : Nat → Int32} (h : jrv g T n X Y Z) (h2 : jrv g U n X2 Y2 Z2) (he : ∀ k, k < n → T k = U k) : ∀ i : Nat, i ≤ n → X i = X2 i ∧ Y i = Y2 i ∧ Z i = Z2 i := fun i hi => by
  have a := h i hi
  have b := h2 i hi
  rw [jPt_congr (U := U) i (fun k hk => he k (by omega))] at a
  exact ⟨jI_inj.mp (a.1.trans b.1.symm), jI_inj.mp (a.2.1.trans b.2.1.symm), jI_inj.mp (a.2.2.trans b.2.2.symm)⟩
theorem jrv.z0 {g : Int} {T : Nat → Int} {n : Nat} {X Y Z : Nat → Int32} (h : jrv g T n X Y Z) (hg : ¬ g = 3) {i : Nat} (hi : i ≤ n) : (Z i).toInt = 0 := (h i hi).2.2.trans (jPt_z hg i)
