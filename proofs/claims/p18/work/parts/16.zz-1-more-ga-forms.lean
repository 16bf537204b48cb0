/-! forms, counted -/
theorem jlx_tri {F B : Nat → Int} : ∀ n : Nat, jlx n F B ∨ jlx n B F ∨ ∀ j : Nat, j < n → F j = B j
  | 0 => Or.inr (Or.inr (fun j hj => absurd hj (Nat.not_lt_zero j)))
  | n + 1 => by
    rcases jlx_tri (F := F) (B := B) n with ⟨i, h1, h2, h3⟩ | ⟨i, h1, h2, h3⟩ | h
    · exact Or.inl ⟨i, by omega, h2, h3⟩
    · exact Or.inr (Or.inl ⟨i, by omega, h2, h3⟩)
    · rcases Int.lt_trichotomy (F n) (B n) with q | q | q
      · exact Or.inl ⟨n, by omega, h, q⟩
      · refine Or.inr (Or.inr (fun j hj => ?_))
        by_cases e : j = n
        · subst e; exact q
        · exact h j (by omega)
      · exact Or.inr (Or.inl ⟨n, by omega, fun j hj => (h j hj).symm, q⟩)
theorem jlx_trans {n : Nat} {F B C : Nat → Int} (h : jlx n F B) (k : jlx n B C) : jlx n F C := by
  obtain ⟨i, h1, h2, h3⟩ := h
  obtain ⟨j, k1, k2, k3⟩ := k
  rcases Nat.lt_trichotomy i j with q | q | q
  · exact ⟨i, h1, fun m hm => (h2 m hm).trans (k2 m (by omega)), by rw [← k2 i q]; exact h3⟩
  · subst q
    exact ⟨i, h1, fun m hm => (h2 m hm).trans (k2 m hm), Int.lt_trans h3 k3⟩
  · exact ⟨j, k1, fun m hm => (h2 m (by omega)).trans (k2 m hm), by rw [h2 j q]; exact k3⟩
/-- no turned version is less -/
def jow (g : Int) (T : Nat → Int) (n : Nat) : Prop := ∀ k : Nat, (k : Int) < 2 * jtur g → ¬ jlx n (jim g T n ((k / 2 : Nat) : Int) (decide (k % 2 = 1))) T
theorem jow_congr {g : Int} {T U : Nat → Int} {n : Nat} (h : ∀ q, q < n → T q = U q) : jow g T n ↔ jow g U n := by
  constructor
  · intro w k hk z
    exact w k hk ((jlx_congr (jim_congr h) h).mpr z)
  · intro w k hk z
    exact w k hk ((jlx_congr (jim_congr h) h).mp z)
theorem jow_bs {g : Int} {T : Nat → Int} {n : Nat} (h : jow g T n) : ∀ k : Nat, (k : Int) ≤ 2 * jtur g → ∀ j : Nat, j < n → jbs g T n k j = T j
  | 0, _ => fun _ _ => rfl
  | k + 1, hk => fun j hj => by
    have ih := jow_bs h k (by omega)
    have c : ¬ jlx n (jim g T n ((k / 2 : Nat) : Int) (decide (k % 2 = 1))) (jbs g T n k) := fun z => h k (by omega) ((jlx_congr (fun _ _ => rfl) ih).mp z)
    rw [jbs_no c]
    exact ih j hj
theorem jbs_dn {g : Int} {T : Nat → Int} {n k : Nat} (h : jlx n (jim g T n ((k / 2 : Nat) : Int) (decide (k % 2 = 1))) T) : ∀ m : Nat, k < m → jlx n (jbs g T n m) T
  | 0, hm => absurd hm (Nat.not_lt_zero k)
  | m + 1, hm => by
    by_cases e : k = m
    · subst e
      by_cases c : jlx n (jim g T n ((k / 2 : Nat) : Int) (decide (k % 2 = 1))) (jbs g T n k)
      · rw [jbs_yes c]
        exact h
      · rw [jbs_no c]
        rcases jlx_tri (F := jim g T n ((k / 2 : Nat) : Int) (decide (k % 2 = 1))) (B := jbs g T n k) n with q | q | q
        · exact absurd q c
        · exact jlx_trans q h
        · exact (jlx_congr q (fun _ _ => rfl)).mp h
    · have ih := jbs_dn h m (by omega)
      by_cases c : jlx n (jim g T n ((m / 2 : Nat) : Int) (decide (m % 2 = 1))) (jbs g T n m)
      · rw [jbs_yes c]
        exact jlx_trans c ih
      · rw [jbs_no c]
        exact ih
theorem jow_iff {g : Int} {T : Nat → Int} {n : Nat} (hg : 0 ≤ jtur g) : jow g T n ↔ ∀ j : Nat, j < n → jbs g T n (2 * jtur g).toNat j = T j := by
  constructor
  · intro h j hj
    exact jow_bs h (2 * jtur g).toNat (by omega) j hj
  · intro h k hk z
    exact jlx_eq h (jbs_dn z (2 * jtur g).toNat (by omega))
theorem jav.le {g : Int} {T : Nat → Int} {m n : Nat} (h : jav g T n) (hm : m ≤ n) : jav g T m := fun i j h1 h2 => h i j h1 (by omega)
/-- T with d at place i -/
def jsat (T : Nat → Int) (i : Nat) (d : Int) : Nat → Int := fun q => if q = i then d else T q
theorem jsat_at {T : Nat → Int} {i : Nat} {d : Int} : jsat T i d i = d := if_pos rfl
theorem jsat_ne {T : Nat → Int} {i q : Nat} {d : Int} (h : q ≠ i) : jsat T i d q = T q := if_neg h
/-- a sum of the first c -/
def jsu (f : Nat → Nat) : Nat → Nat
  | 0 => 0
  | c + 1 => jsu f c + f c
theorem jsu_congr {f h : Nat → Nat} : ∀ c : Nat, (∀ d : Nat, d < c → f d = h d) → jsu f c = jsu h c
  | 0, _ => rfl
  | c + 1, e => by
    show jsu f c + f c = jsu h c + h c
    rw [jsu_congr c (fun d hd => e d (by omega)), e c (Nat.lt_succ_self c)]
theorem jsu_add {f : Nat → Nat} (a : Nat) : ∀ b : Nat, jsu f (a + b) = jsu f a + jsu (fun q => f (a + q)) b
  | 0 => rfl
  | b + 1 => by
    show jsu f (a + b) + f (a + b) = jsu f a + (jsu (fun q => f (a + q)) b + f (a + b))
    rw [jsu_add a b]
    omega
theorem jsu_block {f : Nat → Nat} {m : Nat} : ∀ c : Nat, jsu f (c * m) = jsu (fun d => jsu (fun q => f (d * m + q)) m) c
  | 0 => by rw [Nat.zero_mul]; rfl
  | c + 1 => by
    rw [Nat.succ_mul, jsu_add, jsu_block c]
    rfl
theorem jsu_zero {f : Nat → Nat} : ∀ c : Nat, (∀ d : Nat, d < c → f d = 0) → jsu f c = 0
  | 0, _ => rfl
  | c + 1, e => by
    show jsu f c + f c = 0
    rw [jsu_zero c (fun d hd => e d (by omega)), e c (Nat.lt_succ_self c)]
/-- one, where it is so -/
noncomputable def jone (p : Prop) : Nat := @ite _ p (Classical.propDecidable p) 1 0
theorem jone_yes {p : Prop} (h : p) : jone p = 1 := @if_pos _ (Classical.propDecidable _) h _ _ _
theorem jone_no {p : Prop} (h : ¬ p) : jone p = 0 := @if_neg _ (Classical.propDecidable _) h _ _ _
/-- the forms of n steps that begin with the first n - k of T -/
noncomputable def jfc (g : Int) (n : Nat) : Nat → (Nat → Int) → Nat
  | 0, T => jone (jow g T n)
  | k + 1, T => jsu (fun d => jone (jav g (jsat T (n - (k + 1)) (d : Int)) (n - k)) * jfc g n k (jsat T (n - (k + 1)) (d : Int))) (jdir g).toNat
/-- the i-th digit of v, of n, the first the highest -/
def jdg9 (D n v i : Nat) : Int := ((v / D ^ (n - 1 - i) % D : Nat) : Int)
theorem jpp {D : Nat} (h : 0 < D) : ∀ k : Nat, 0 < D ^ k
  | 0 => by rw [Nat.pow_zero]; decide
  | k + 1 => by rw [Nat.pow_succ]; exact Nat.mul_pos (jpp h k) h
theorem jdg9_hi {D n k P q i : Nat} (hD : 0 < D) (hq : q < D ^ k) (hi : i < n - k) : jdg9 D n (P * D ^ k + q) i = jdg9 D (n - k) P i := by
  unfold jdg9
  have e1 : n - 1 - i = k + (n - k - 1 - i) := by omega
  have e2 : (P * D ^ k + q) / D ^ (n - 1 - i) = P / D ^ (n - k - 1 - i) := by
    rw [e1, Nat.pow_add, ← Nat.div_div_eq_div_mul, Nat.mul_comm P (D ^ k), Nat.mul_add_div (jpp hD k), Nat.div_eq_of_lt hq, Nat.add_zero]
  rw [e2]
theorem jdg9_lo {D m p d : Nat} (hd : d < D) : jdg9 D (m + 1) (p * D + d) m = (d : Int) := by
  unfold jdg9
  rw [show m + 1 - 1 - m = 0 by omega, Nat.pow_zero, Nat.div_one, Nat.mul_comm p D, Nat.mul_add_mod, Nat.mod_eq_of_lt hd]
theorem jdg9_up {D m p d i : Nat} (hd : d < D) (hi : i < m) : jdg9 D (m + 1) (p * D + d) i = jdg9 D m p i := by
  have q := jdg9_hi (D := D) (n := m + 1) (k := 1) (P := p) (q := d) (i := i) (by omega) (by rw [Nat.pow_one]; exact hd) (by omega)
  rw [Nat.pow_one] at q
  exact q
theorem jdg9_b {D n v i : Nat} (hD : 0 < D) : 0 ≤ jdg9 D n v i ∧ jdg9 D n v i < (D : Int) := by
  unfold jdg9
  have := Nat.mod_lt (v / D ^ (n - 1 - i)) hD
  omega
/-- a number's row is a walk, and its own form -/
noncomputable def jffo (g : Int) (D n v : Nat) : Nat := jone (jav g (jdg9 D n v) n ∧ jow g (jdg9 D n v) n)
theorem jfc_sum {g : Int} {n D : Nat} (hD : (jdir g).toNat = D) (h0 : 0 < D) : ∀ (k p : Nat) (T : Nat → Int), k ≤ n → (∀ i : Nat, i < n - k → T i = jdg9 D (n - k) p i) → jav g T (n - k) → jfc g n k T = jsu (fun r => jffo g D n (p * D ^ k + r)) (D ^ k)
  | 0, p, T, hk, hT, hA => by
    have e : ∀ i : Nat, i < n → jdg9 D n (p * D ^ 0 + 0) i = T i := fun i hi => by
      rw [Nat.pow_zero, Nat.mul_one, Nat.add_zero]
      exact (hT i hi).symm
    show jone (jow g T n) = 0 + jone (jav g (jdg9 D n (p * D ^ 0 + 0)) n ∧ jow g (jdg9 D n (p * D ^ 0 + 0)) n)
    by_cases c : jow g T n
    · rw [jone_yes c, jone_yes ⟨hA.congr (fun q hq => (e q hq).symm), (jow_congr e).mpr c⟩]
    · rw [jone_no c, jone_no (fun z => c ((jow_congr e).mp z.2))]
  | k + 1, p, T, hk, hT, hA => by
    have hs : n - k = (n - (k + 1)) + 1 := by omega
    have one : ∀ d : Nat, d < D → jone (jav g (jsat T (n - (k + 1)) (d : Int)) (n - k)) * jfc g n k (jsat T (n - (k + 1)) (d : Int)) = jsu (fun q => jffo g D n (p * D ^ (k + 1) + (d * D ^ k + q))) (D ^ k) := fun d hd => by
      have ep : ∀ q : Nat, p * D ^ (k + 1) + (d * D ^ k + q) = (p * D + d) * D ^ k + q := fun q => by
        rw [Nat.pow_succ, Nat.add_mul, Nat.mul_assoc p D (D ^ k), Nat.mul_comm D (D ^ k), Nat.add_assoc]
      have hT2 : ∀ i : Nat, i < n - k → jsat T (n - (k + 1)) (d : Int) i = jdg9 D (n - k) (p * D + d) i := fun i hi => by
        rw [hs] at hi ⊢
        by_cases e : i = n - (k + 1)
        · rw [e, jsat_at]
          exact (jdg9_lo hd).symm
        · rw [jsat_ne e, hT i (by omega)]
          exact (jdg9_up hd (by omega)).symm
      simp only [ep]
      by_cases c : jav g (jsat T (n - (k + 1)) (d : Int)) (n - k)
      · rw [jone_yes c, Nat.one_mul]
        exact jfc_sum hD h0 k (p * D + d) _ (by omega) hT2 c
      · rw [jone_no c, Nat.zero_mul]
        refine (jsu_zero _ (fun q hq => jone_no (fun z => c ?_))).symm
        exact (jav.le z.1 (by omega)).congr (fun i hi => (jdg9_hi h0 hq hi).trans (hT2 i hi).symm)
    have hpw : D ^ (k + 1) = D * D ^ k := by rw [Nat.pow_succ, Nat.mul_comm]
    have hb : jsu (fun r => jffo g D n (p * D ^ (k + 1) + r)) (D ^ (k + 1)) = jsu (fun d => jsu (fun q => jffo g D n (p * D ^ (k + 1) + (d * D ^ k + q))) (D ^ k)) D := by
      have q := jsu_block (f := fun r => jffo g D n (p * D ^ (k + 1) + r)) (m := D ^ k) D
      rw [← hpw] at q
      exact q
    rw [hb]
    show jsu _ (jdir g).toNat = _
    rw [hD]
    exact jsu_congr D one
/-- all forms of n steps -/
theorem jfc_all {g : Int} {n D : Nat} (hD : (jdir g).toNat = D) (h0 : 0 < D) (T : Nat → Int) : jfc g n n T = jsu (jffo g D n) (D ^ n) := by
  have q := jfc_sum hD h0 n 0 T (Nat.le_refl _) (fun i hi => absurd hi (by omega)) (fun i j h1 h2 => absurd h2 (by omega))
  rw [q]
  refine jsu_congr _ (fun r _ => ?_)
  show jffo g D n (0 * D ^ n + r) = _
  rw [Nat.zero_mul, Nat.zero_add]
theorem jow.no {g t : Int} {T : Nat → Int} {n : Nat} {b : Bool} (K : Nat) (hK : ((K / 2 : Nat) : Int) = t) (hb : decide (K % 2 = 1) = b) (hk : (K : Int) < 2 * jtur g) (h : jlx n (jim g T n t b) T) : ¬ jow g T n := fun w => by
  subst hK
  subst hb
  exact w K hk h
theorem jow.step {g t : Int} {T : Nat → Int} {n : Nat} (ht : 0 ≤ t) (h : ∀ k : Nat, (k : Int) < 2 * t → ¬ jlx n (jim g T n ((k / 2 : Nat) : Int) (decide (k % 2 = 1))) T) (h0 : ¬ jlx n (jim g T n t false) T) (h1 : ¬ jlx n (jim g T n t true) T) : ∀ k : Nat, (k : Int) < 2 * (t + 1) → ¬ jlx n (jim g T n ((k / 2 : Nat) : Int) (decide (k % 2 = 1))) T := fun k hk => by
  by_cases c : (k : Int) < 2 * t
  · exact h k c
  · rw [show ((k / 2 : Nat) : Int) = t by omega]
    by_cases e : k % 2 = 1
    · rw [decide_eq_true e]
      exact h1
    · rw [decide_eq_false e]
      exact h0
theorem jnx_iff {g d : Int} {T : Nat → Int} {N : Nat} {X Y Z : Nat → Int32} (h : jrv g T N X Y Z) (ha : jav g T N) : (∀ j : Nat, j ≤ N → ¬ ((X j).toInt = (X N).toInt + jsx g d ∧ (Y j).toInt = (Y N).toInt + jsy g d ((X N).toInt + (Y N).toInt) ∧ (Z j).toInt = (Z N).toInt + jsz g d)) ↔ jav g (jsat T N d) (N + 1) := by
  have h' : jrv g (jsat T N d) N X Y Z := h.congr (fun k hk => (jsat_ne (by omega)).symm)
  have a' : jav g (jsat T N d) N := ha.congr (fun k hk => (jsat_ne (by omega)).symm)
  have e : jsat T N d N = d := jsat_at
  rw [jav_succ]
  constructor
  · intro q
    refine ⟨a', fun i hi z => q i hi ?_⟩
    have w := (h'.next hi).mp z
    rw [e] at w
    exact w
  · intro q j hj z
    refine q.2 j hj ((h'.next hj).mpr ?_)
    rw [e]
    exact z
theorem jsu_mono {f : Nat → Nat} {a b : Nat} (h : a ≤ b) : jsu f a ≤ jsu f b := by
  obtain ⟨c, rfl⟩ : ∃ c, b = a + c := ⟨b - a, by omega⟩
  rw [jsu_add]
  exact Nat.le_add_right _ _
theorem jsu_le {f : Nat → Nat} {m : Nat} : ∀ c : Nat, (∀ d : Nat, d < c → f d ≤ m) → jsu f c ≤ c * m
  | 0, _ => Nat.zero_le _
  | c + 1, h => by
    show jsu f c + f c ≤ (c + 1) * m
    rw [Nat.succ_mul]
    exact Nat.add_le_add (jsu_le c (fun d hd => h d (by omega))) (h c (Nat.lt_succ_self c))
theorem jone_le (p : Prop) : jone p ≤ 1 := by
  by_cases c : p
  · rw [jone_yes c]; exact Nat.le_refl _
  · rw [jone_no c]; exact Nat.zero_le _
theorem jfc_le {g : Int} {n D : Nat} (hD : (jdir g).toNat = D) : ∀ (k : Nat) (T : Nat → Int), jfc g n k T ≤ D ^ k
  | 0, T => by
    rw [Nat.pow_zero]
    exact jone_le _
  | k + 1, T => by
    show jsu _ (jdir g).toNat ≤ _
    rw [hD, Nat.pow_succ, Nat.mul_comm]
    refine jsu_le D (fun d _ => ?_)
    refine Nat.le_trans (Nat.mul_le_mul (jone_le _) (jfc_le hD k _)) ?_
    rw [Nat.one_mul]
    exact Nat.le_refl _
theorem jfc_congr {g : Int} {n : Nat} : ∀ (k : Nat) {T U : Nat → Int}, (∀ q : Nat, q < n - k → T q = U q) → jfc g n k T = jfc g n k U
  | 0, T, U, h => by
    show jone (jow g T n) = jone (jow g U n)
    have e := jow_congr (g := g) (n := n) h
    by_cases c : jow g T n
    · rw [jone_yes c, jone_yes (e.mp c)]
    · rw [jone_no c, jone_no (fun z => c (e.mpr z))]
  | k + 1, T, U, h => by
    show jsu _ _ = jsu _ _
    refine jsu_congr _ (fun d _ => ?_)
    have e : ∀ q : Nat, q < n - k → jsat T (n - (k + 1)) (d : Int) q = jsat U (n - (k + 1)) (d : Int) q := fun q hq => by
      by_cases c : q = n - (k + 1)
      · rw [c, jsat_at, jsat_at]
      · rw [jsat_ne c, jsat_ne c]
        exact h q (by omega)
    rw [jfc_congr k e]
    by_cases c : jav g (jsat T (n - (k + 1)) (d : Int)) (n - k)
    · rw [jone_yes c, jone_yes (c.congr e)]
    · rw [jone_no c, jone_no (fun z => c (z.congr (fun q hq => (e q hq).symm)))]
theorem jfc_step {g : Int} {n k N : Nat} {T : Nat → Int} (h : n = N + (k + 1)) : jfc g n (k + 1) T = jsu (fun d => jone (jav g (jsat T N (d : Int)) (N + 1)) * jfc g n k (jsat T N (d : Int))) (jdir g).toNat := by
  subst h
  show jsu (fun d => jone (jav g (jsat T (N + (k + 1) - (k + 1)) (d : Int)) (N + (k + 1) - k)) * jfc g (N + (k + 1)) k (jsat T (N + (k + 1) - (k + 1)) (d : Int))) (jdir g).toNat = _
  rw [show N + (k + 1) - (k + 1) = N by omega, show N + (k + 1) - k = N + 1 by omega]
/-- a direction laid: the row's places, its directions -/
theorem jlay_ok {g : Int} {N : Nat} {S S2 X Y Z X2 Y2 Z2 : Nat → Int32} {x : Int32} (h : jrv g (fun q => (S q).toInt) N X Y Z) (hS : S2 N = x) (hSo : ∀ j : Nat, j ≠ N → S2 j = S j) (hx : (X2 (N + 1)).toInt = (X N).toInt + jsx g x.toInt) (hy : (Y2 (N + 1)).toInt = (Y N).toInt + jsy g x.toInt ((X N).toInt + (Y N).toInt)) (hz : (Z2 (N + 1)).toInt = (Z N).toInt + jsz g x.toInt) (ox : ∀ i, i ≠ N + 1 → X2 i = X i) (oy : ∀ i, i ≠ N + 1 → Y2 i = Y i) (oz : ∀ i, i ≠ N + 1 → Z2 i = Z i) : jrv g (fun q => (S2 q).toInt) (N + 1) X2 Y2 Z2 ∧ ∀ q : Nat, q < N + 1 → jsat (fun q => (S q).toInt) N x.toInt q = (S2 q).toInt := by
  have e : ∀ q : Nat, q < N → (S q).toInt = (S2 q).toInt := fun q hq => by rw [hSo q (by omega)]
  have h2 : jrv g (fun q => (S2 q).toInt) N X Y Z := h.congr e
  refine ⟨h2.lay ?_ ?_ ?_ ox oy oz, fun q hq => ?_⟩
  · skip
    rw [hS]
    exact hx
  · skip
    rw [hS]
    exact hy
  · skip
    rw [hS]
    exact hz
  · by_cases c : q = N
    · rw [c, jsat_at, hS]
    · rw [jsat_ne c]
      exact e q (by omega)
