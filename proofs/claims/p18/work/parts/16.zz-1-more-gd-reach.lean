/-! turnings: queues -/
theorem jnth_l (v : Nat) : ∀ (l : List Nat) (i : Nat), i < l.length → jnth (l ++ [v]) i = jnth l i
  | [], i, h => absurd h (Nat.not_lt_zero i)
  | _ :: _, 0, _ => rfl
  | _ :: l, i + 1, h => jnth_l v l i (Nat.lt_of_succ_lt_succ h)
theorem jnth_r (v : Nat) : ∀ l : List Nat, jnth (l ++ [v]) l.length = v
  | [] => rfl
  | _ :: l => jnth_r v l
theorem jnth_mem : ∀ (l : List Nat) (i : Nat), i < l.length → jnth l i ∈ l
  | [], i, h => absurd h (Nat.not_lt_zero i)
  | _ :: _, 0, _ => List.mem_cons_self
  | _ :: l, i + 1, h => List.mem_cons_of_mem _ (jnth_mem l i (Nat.lt_of_succ_lt_succ h))
/-- how many of the first are c -/
def jc9 (c : Int) (f : Nat → Int32) : Nat → Nat
  | 0 => 0
  | n + 1 => jc9 c f n + (if (f n).toInt = c then 1 else 0)
theorem jc9_le (c : Int) (f : Nat → Int32) : ∀ n : Nat, jc9 c f n ≤ n
  | 0 => Nat.le_refl 0
  | n + 1 => by
    have := jc9_le c f n
    show jc9 c f n + (if (f n).toInt = c then 1 else 0) ≤ n + 1
    split <;> omega
theorem jc9_lt {c : Int} {f : Nat → Int32} {v : Nat} (h : ¬ (f v).toInt = c) : ∀ n : Nat, v < n → jc9 c f n < n
  | 0, hv => absurd hv (Nat.not_lt_zero v)
  | n + 1, hv => by
    show jc9 c f n + (if (f n).toInt = c then 1 else 0) < n + 1
    by_cases e : v = n
    · subst e
      rw [if_neg h]
      have := jc9_le c f v
      omega
    · have := jc9_lt h n (by omega)
      split <;> omega
theorem jc9_same {c : Int} {f f2 : Nat → Int32} : ∀ n : Nat, (∀ k : Nat, k < n → f2 k = f k) → jc9 c f2 n = jc9 c f n
  | 0, _ => rfl
  | n + 1, h => by
    show jc9 c f2 n + (if (f2 n).toInt = c then 1 else 0) = jc9 c f n + (if (f n).toInt = c then 1 else 0)
    rw [jc9_same n (fun k hk => h k (by omega)), h n (Nat.lt_succ_self n)]
theorem jc9_set {c : Int} {f f2 : Nat → Int32} {v : Nat} (h : ¬ (f v).toInt = c) (h2 : (f2 v).toInt = c) (ho : ∀ k : Nat, k ≠ v → f2 k = f k) : ∀ n : Nat, v < n → jc9 c f2 n = jc9 c f n + 1
  | 0, hv => absurd hv (Nat.not_lt_zero v)
  | n + 1, hv => by
    show jc9 c f2 n + (if (f2 n).toInt = c then 1 else 0) = jc9 c f n + (if (f n).toInt = c then 1 else 0) + 1
    by_cases e : v = n
    · subst e
      rw [if_neg h, if_pos h2, jc9_same v (fun k hk => ho k (by omega))]
    · rw [jc9_set h h2 ho n (by omega), ho n (fun z => e z.symm)]
      omega
theorem jc9_zero {c : Int} {f : Nat → Int32} : ∀ n : Nat, (∀ k : Nat, k < n → ¬ (f k).toInt = c) → jc9 c f n = 0
  | 0, _ => rfl
  | n + 1, h => by
    show jc9 c f n + (if (f n).toInt = c then 1 else 0) = 0
    rw [jc9_zero n (fun k hk => h k (by omega)), if_neg (h n (Nat.lt_succ_self n))]
theorem jadd_yes {p : Nat → Prop} {q : List Nat} {v : Nat} (h : ¬ v ∈ q) (hp : p v) : jadd p q v = q ++ [v] := jif_yes ⟨h, hp⟩
theorem jadd_no {p : Nat → Prop} {q : List Nat} {v : Nat} (h : ¬ (¬ v ∈ q ∧ p v)) : jadd p q v = q := jif_no h
/-- the class: what the states and the queue say -/
def jrs9 (p : Nat → Prop) (R : Nat) (ST QU : Nat → Int32) (q : Int) (L : List Nat) : Prop := q = (L.length : Int) ∧ (∀ i : Nat, i < L.length → (QU i).toInt = ((jnth L i : Nat) : Int)) ∧ (∀ v ∈ L, v < R) ∧ (∀ v : Nat, v < R → ((ST v).toInt = 2 ↔ v ∈ L) ∧ ((ST v).toInt = 1 ↔ ¬ v ∈ L ∧ p v)) ∧ jc9 2 ST R = L.length
theorem jrs9.len {p : Nat → Prop} {R : Nat} {ST QU : Nat → Int32} {q : Int} {L : List Nat} (h : jrs9 p R ST QU q L) : q = (L.length : Int) ∧ L.length ≤ R := by
  obtain ⟨h1, -, -, -, h5⟩ := h
  have := jc9_le 2 ST R
  exact ⟨h1, by omega⟩
theorem jrs9.room {p : Nat → Prop} {R : Nat} {ST QU : Nat → Int32} {q : Int} {L : List Nat} {v : Nat} (h : jrs9 p R ST QU q L) (hv : v < R) (h1 : (ST v).toInt = 1) : L.length < R := by
  obtain ⟨-, -, -, -, h5⟩ := h
  have := jc9_lt (c := 2) (f := ST) (v := v) (by omega) R hv
  omega
theorem jrs9.same {p : Nat → Prop} {R : Nat} {ST QU : Nat → Int32} {q : Int} {L : List Nat} {v : Nat} (h : jrs9 p R ST QU q L) (hv : v < R) (h1 : ¬ (ST v).toInt = 1) : jrs9 p R ST QU q (jadd p L v) := by
  rw [jadd_no (fun z => h1 ((h.2.2.2.1 v hv).2.mpr z))]
  exact h
theorem jrs9.add {p : Nat → Prop} {R : Nat} {ST QU ST2 QU2 : Nat → Int32} {q : Int} {L : List Nat} {v : Nat} (h : jrs9 p R ST QU q L) (hv : v < R) (h1 : (ST v).toInt = 1) (s1 : (ST2 v).toInt = 2) (s2 : ∀ k : Nat, k ≠ v → ST2 k = ST k) (q1 : (QU2 L.length).toInt = (v : Int)) (q2 : ∀ k : Nat, k ≠ L.length → QU2 k = QU k) : jrs9 p R ST2 QU2 (q + 1) (jadd p L v) := by
  have hn := (h.2.2.2.1 v hv).2.mp h1
  rw [jadd_yes hn.1 hn.2]
  obtain ⟨a1, a2, a3, a4, a5⟩ := h
  have hl : (L ++ [v]).length = L.length + 1 := by rw [List.length_append]; rfl
  refine ⟨by rw [hl]; omega, fun i hi => ?_, fun w hw => ?_, fun w hw => ?_, ?_⟩
  · rw [hl] at hi
    by_cases e : i = L.length
    · rw [e, jnth_r, q1]
    · rw [jnth_l v L i (by omega), q2 i e, a2 i (by omega)]
  · rcases List.mem_append.mp hw with z | z
    · exact a3 w z
    · rw [List.mem_singleton.mp z]
      exact hv
  · by_cases e : w = v
    · rw [e]
      exact ⟨⟨fun _ => List.mem_append_right _ (List.mem_singleton.mpr rfl), fun _ => s1⟩, ⟨fun z => by rw [s1] at z; exact absurd z (by decide), fun z => absurd (List.mem_append_right _ (List.mem_singleton.mpr rfl)) z.1⟩⟩
    · have m : w ∈ L ++ [v] ↔ w ∈ L := ⟨fun z => (List.mem_append.mp z).elim id (fun z => absurd (List.mem_singleton.mp z) e), fun z => List.mem_append_left _ z⟩
      rw [s2 w e, m]
      exact a4 w hw
  · rw [jc9_set (by omega) s1 s2 R hv, a5, hl]
theorem jrs9.init {p : Nat → Prop} {R : Nat} {ST QU : Nat → Int32} (h : ∀ v : Nat, v < R → (p v → (ST v).toInt = 1) ∧ (¬ p v → (ST v).toInt = 0)) : jrs9 p R ST QU 0 [] := by
  have k : ∀ v : Nat, v < R → ¬ (ST v).toInt = 2 := fun v hv => by
    by_cases c : p v
    · rw [(h v hv).1 c]; decide
    · rw [(h v hv).2 c]; decide
  refine ⟨rfl, fun i hi => absurd hi (Nat.not_lt_zero i), fun v hv => absurd hv List.not_mem_nil, fun v hv => ⟨⟨fun z => absurd z (k v hv), fun z => absurd z List.not_mem_nil⟩, ⟨fun z => ⟨List.not_mem_nil, Classical.byContradiction (fun c => by rw [(h v hv).2 c] at z; exact absurd z (by decide))⟩, fun z => (h v hv).1 z.2⟩⟩, jc9_zero R k⟩
/-- the reference: what is met, and its queue -/
def jrr9 (R : Nat) (MT QU : Nat → Int32) (q : Int) (L : List Nat) : Prop := q = (L.length : Int) ∧ (∀ i : Nat, i < L.length → (QU i).toInt = ((jnth L i : Nat) : Int)) ∧ (∀ v ∈ L, v < R) ∧ (∀ v : Nat, v < R → ((MT v).toInt = 1 ↔ v ∈ L) ∧ ((MT v).toInt = 0 ↔ ¬ v ∈ L)) ∧ jc9 1 MT R = L.length
theorem jrr9.len {R : Nat} {MT QU : Nat → Int32} {q : Int} {L : List Nat} (h : jrr9 R MT QU q L) : q = (L.length : Int) ∧ L.length ≤ R := by
  obtain ⟨h1, -, -, -, h5⟩ := h
  have := jc9_le 1 MT R
  exact ⟨h1, by omega⟩
theorem jrr9.room {R : Nat} {MT QU : Nat → Int32} {q : Int} {L : List Nat} {v : Nat} (h : jrr9 R MT QU q L) (hv : v < R) (h1 : (MT v).toInt = 0) : L.length < R := by
  obtain ⟨-, -, -, -, h5⟩ := h
  have := jc9_lt (c := 1) (f := MT) (v := v) (by omega) R hv
  omega
theorem jrr9.add {p : Nat → Prop} {R : Nat} {MT QU MT2 QU2 : Nat → Int32} {q : Int} {L : List Nat} {v : Nat} (h : jrr9 R MT QU q L) (hv : v < R) (h1 : (MT v).toInt = 0) (hp : p v) (s1 : (MT2 v).toInt = 1) (s2 : ∀ k : Nat, k ≠ v → MT2 k = MT k) (q1 : (QU2 L.length).toInt = (v : Int)) (q2 : ∀ k : Nat, k ≠ L.length → QU2 k = QU k) : jrr9 R MT2 QU2 (q + 1) (jadd p L v) := by
  have hn := (h.2.2.2.1 v hv).2.mp h1
  rw [jadd_yes hn hp]
  obtain ⟨a1, a2, a3, a4, a5⟩ := h
  have hl : (L ++ [v]).length = L.length + 1 := by rw [List.length_append]; rfl
  refine ⟨by rw [hl]; omega, fun i hi => ?_, fun w hw => ?_, fun w hw => ?_, ?_⟩
  · rw [hl] at hi
    by_cases e : i = L.length
    · rw [e, jnth_r, q1]
    · rw [jnth_l v L i (by omega), q2 i e, a2 i (by omega)]
  · rcases List.mem_append.mp hw with z | z
    · exact a3 w z
    · rw [List.mem_singleton.mp z]
      exact hv
  · by_cases e : w = v
    · rw [e]
      exact ⟨⟨fun _ => List.mem_append_right _ (List.mem_singleton.mpr rfl), fun _ => s1⟩, ⟨fun z => by rw [s1] at z; exact absurd z (by decide), fun z => absurd (List.mem_append_right _ (List.mem_singleton.mpr rfl)) z⟩⟩
    · have m : w ∈ L ++ [v] ↔ w ∈ L := ⟨fun z => (List.mem_append.mp z).elim id (fun z => absurd (List.mem_singleton.mp z) e), fun z => List.mem_append_left _ z⟩
      rw [s2 w e, m]
      exact a4 w hw
  · rw [jc9_set (by omega) s1 s2 R hv, a5, hl]
theorem jrr9.same {p : Nat → Prop} {R : Nat} {MT QU : Nat → Int32} {q : Int} {L : List Nat} {v : Nat} (h : jrr9 R MT QU q L) (hv : v < R) (h1 : ¬ (MT v).toInt = 0 ∨ ¬ p v) : jrr9 R MT QU q (jadd p L v) := by
  rw [jadd_no (fun z => h1.elim (fun w => w ((h.2.2.2.1 v hv).2.mpr z.1)) (fun w => w z.2))]
  exact h
theorem jrr9.init {R : Nat} {MT QU : Nat → Int32} (h : ∀ v : Nat, v < R → (MT v).toInt = 0) : jrr9 R MT QU 0 [] :=
  ⟨rfl, fun i hi => absurd hi (Nat.not_lt_zero i), fun v hv => absurd hv List.not_mem_nil, fun v hv => ⟨⟨fun z => by rw [h v hv] at z; exact absurd z (by decide), fun z => absurd z List.not_mem_nil⟩, ⟨fun _ => List.not_mem_nil, fun _ => h v hv⟩⟩, jc9_zero R (fun v hv => by rw [h v hv]; decide)⟩
/-! the queue taken -/
theorem jbf_done {g : Int} {D n T h : Nat} {q : List Nat} (hh : ¬ h < q.length) : ∀ m : Nat, jbf g D n T m h q = q
  | 0 => rfl
  | _ + 1 => if_neg hh
theorem jbf_step {g : Int} {D n T h m : Nat} {q : List Nat} (hh : h < q.length) : jbf g D n T (m + 1) h q = jbf g D n T m (h + 1) (jtas g D n T (jnth q h) q (n * T)) := if_pos hh
theorem jtas_step {g : Int} {D n T v k t : Nat} {q : List Nat} (ht : t < T) : jtas g D n T v q (k * T + (t + 1)) = jadd (jwlk g D n) (jtas g D n T v q (k * T + t)) (jto g D n v k ((t : Nat) : Int)) := by
  show jadd (jwlk g D n) (jtas g D n T v q (k * T + t)) (jto g D n v ((k * T + t) / T) (((k * T + t) % T : Nat) : Int)) = _
  rw [Nat.mul_comm k T, Nat.mul_add_div (by omega), Nat.div_eq_of_lt ht, Nat.add_zero, Nat.mul_add_mod, Nat.mod_eq_of_lt ht]
/-! numbers and digits -/
theorem jnm_lt {D : Nat} {T : Nat → Int} : ∀ n : Nat, (∀ i : Nat, i < n → 0 ≤ T i ∧ T i < (D : Int)) → jnm D T n < D ^ n
  | 0, _ => by rw [Nat.pow_zero]; exact Nat.lt_succ_self 0
  | n + 1, h => by
    have h1 := jnm_lt n (fun i hi => h i (by omega))
    have h2 := h n (Nat.lt_succ_self n)
    show jnm D T n * D + (T n).toNat < D ^ (n + 1)
    have h3 : (jnm D T n + 1) * D ≤ D ^ n * D := Nat.mul_le_mul_right D h1
    rw [Nat.add_mul, Nat.one_mul] at h3
    rw [Nat.pow_succ]
    omega
theorem jnm_congr {D : Nat} {T U : Nat → Int} : ∀ n : Nat, (∀ i : Nat, i < n → T i = U i) → jnm D T n = jnm D U n
  | 0, _ => rfl
  | n + 1, h => by
    show jnm D T n * D + (T n).toNat = jnm D U n * D + (U n).toNat
    rw [jnm_congr n (fun i hi => h i (by omega)), h n (Nat.lt_succ_self n)]
theorem jdg9_jnm {D : Nat} {T : Nat → Int} : ∀ n : Nat, (∀ i : Nat, i < n → 0 ≤ T i ∧ T i < (D : Int)) → ∀ i : Nat, i < n → jdg9 D n (jnm D T n) i = T i
  | 0, _ => fun i hi => absurd hi (Nat.not_lt_zero i)
  | n + 1, h => fun i hi => by
    have h2 := h n (Nat.lt_succ_self n)
    show jdg9 D (n + 1) (jnm D T n * D + (T n).toNat) i = T i
    by_cases e : i = n
    · rw [e, jdg9_lo (by omega)]
      omega
    · rw [jdg9_up (by omega) (by omega)]
      exact jdg9_jnm n (fun i hi => h i (by omega)) i (by omega)
theorem jwlk_iff {g : Int} {D n : Nat} {T : Nat → Int} (h : ∀ i : Nat, i < n → 0 ≤ T i ∧ T i < (D : Int)) : jwlk g D n (jnm D T n) ↔ jav g T n :=
  ⟨fun w => jav.congr (fun k hk => jdg9_jnm n h k hk) w, fun w => jav.congr (fun k hk => (jdg9_jnm n h k hk).symm) w⟩
theorem jPt_zero (g : Int) : ∀ i : Nat, (jPt g (fun _ => 0) i).1 = (i : Int)
  | 0 => rfl
  | i + 1 => by
    have h := jPt_zero g i
    have h1 : jsx g 0 = 1 := by unfold jsx; (repeat' split) <;> first | rfl | omega
    show (jPt g (fun _ => 0) i).1 + jsx g 0 = ((i + 1 : Nat) : Int)
    rw [h, h1]
    omega
theorem jwlk_zero (g : Int) (D n : Nat) : jwlk g D n 0 := by
  refine jav.congr (T := fun _ => 0) (fun k _ => ?_) (fun i j hi _ z => ?_)
  · show (0 : Int) = ((0 / D ^ (n - 1 - k) % D : Nat) : Int)
    rw [Nat.zero_div, Nat.zero_mod]
    first | rfl | done
  · have z1 := congrArg (fun p : Int × Int × Int => p.1) z
    have z2 : (i : Int) = (j : Int) := (jPt_zero g i).symm.trans (z1.trans (jPt_zero g j))
    omega
theorem jwlk_pre {g : Int} {D n m N p d v : Nat} {T : Nat → Int} (hD : 0 < D) (hd : d < D) (hn : n = N + 1 + m) (hw : jwlk g D n v) (hv : v / D ^ m = p * D + d) (hT : ∀ i : Nat, i < N → T i = jdg9 D N p i) : jav g (jsat T N (d : Int)) (N + 1) := by
  have e : v = (p * D + d) * D ^ m + v % D ^ m := by rw [← hv, Nat.mul_comm]; exact (Nat.div_add_mod v (D ^ m)).symm
  have hm : n - m = N + 1 := by omega
  refine (jav.le hw (show N + 1 ≤ n by omega)).congr (fun k hk => ?_)
  rw [e, jdg9_hi hD (Nat.mod_lt _ (jpp hD m)) (by omega), hm]
  by_cases c : k = N
  · rw [c, jsat_at]
    exact jdg9_lo hd
  · rw [jsat_ne c, hT k (by omega)]
    exact jdg9_up hd (by omega)
/-! walks marked, from a to b of those m digits shorter -/
def jmw (g : Int) (D n m a b : Nat) (ST ST2 : Nat → Int32) : Prop := ∀ v : Nat, ((a ≤ v / D ^ m ∧ v / D ^ m < b) ∧ jwlk g D n v → (ST2 v).toInt = 1) ∧ (¬ ((a ≤ v / D ^ m ∧ v / D ^ m < b) ∧ jwlk g D n v) → ST2 v = ST v)
theorem jmw.rf {g : Int} {D n m a : Nat} {ST : Nat → Int32} : jmw g D n m a a ST ST := fun v => ⟨fun z => by have := z.1; omega, fun _ => rfl⟩
theorem jmw.skip {g : Int} {D n m a b : Nat} {ST ST1 : Nat → Int32} (h : jmw g D n m a b ST ST1) (hb : ∀ v : Nat, v / D ^ m = b → ¬ jwlk g D n v) : jmw g D n m a (b + 1) ST ST1 := fun v => by
  by_cases e : v / D ^ m = b
  · exact ⟨fun z => absurd z.2 (hb v e), fun _ => (h v).2 (fun z => hb v e z.2)⟩
  · exact ⟨fun z => (h v).1 ⟨⟨z.1.1, by have := z.1.2; omega⟩, z.2⟩, fun z => (h v).2 (fun w => z ⟨⟨w.1.1, by have := w.1.2; omega⟩, w.2⟩)⟩
theorem jmw.join {g : Int} {D n m a b c : Nat} {ST ST1 ST2 : Nat → Int32} (h : jmw g D n m a b ST ST1) (k : jmw g D n m b c ST1 ST2) (hab : a ≤ b) (hbc : b ≤ c) : jmw g D n m a c ST ST2 := fun v => by
  by_cases w : jwlk g D n v
  · by_cases e : b ≤ v / D ^ m ∧ v / D ^ m < c
    · exact ⟨fun _ => (k v).1 ⟨e, w⟩, fun z => absurd ⟨⟨Nat.le_trans hab e.1, e.2⟩, w⟩ z⟩
    · have s : ST2 v = ST1 v := (k v).2 (fun z => e z.1)
      rw [s]
      refine ⟨fun z => (h v).1 ⟨⟨z.1.1, ?_⟩, w⟩, fun z => (h v).2 (fun q => z ⟨⟨q.1.1, by have := q.1.2; omega⟩, w⟩)⟩
      exact Nat.not_le.mp (fun q => e ⟨q, z.1.2⟩)
  · exact ⟨fun z => absurd z.2 w, fun _ => ((k v).2 (fun z => w z.2)).trans ((h v).2 (fun z => w z.2))⟩
theorem jmw.up {g : Int} {D n m p : Nat} {ST ST2 : Nat → Int32} (hD : 0 < D) (h : jmw g D n m (p * D) (p * D + D) ST ST2) : jmw g D n (m + 1) p (p + 1) ST ST2 := fun v => by
  have e : v / D ^ (m + 1) = v / D ^ m / D := by rw [Nat.pow_succ, Nat.div_div_eq_div_mul]
  have k : (p ≤ v / D ^ (m + 1) ∧ v / D ^ (m + 1) < p + 1) ↔ (p * D ≤ v / D ^ m ∧ v / D ^ m < p * D + D) := by
    rw [e]
    have q1 : p ≤ v / D ^ m / D ↔ p * D ≤ v / D ^ m := Nat.le_div_iff_mul_le hD
    have q2 : v / D ^ m / D < p + 1 ↔ v / D ^ m < (p + 1) * D := Nat.div_lt_iff_lt_mul hD
    rw [q1, q2, Nat.add_mul, Nat.one_mul]
  rw [k]
  exact h v
theorem jmw.leaf {g : Int} {D n p : Nat} {ST ST2 : Nat → Int32} (hw : jwlk g D n p) (h1 : (ST2 p).toInt = 1) (ho : ∀ k : Nat, k ≠ p → ST2 k = ST k) : jmw g D n 0 p (p + 1) ST ST2 := fun v => by
  rw [Nat.pow_zero, Nat.div_one]
  by_cases e : v = p
  · subst e
    exact ⟨fun _ => h1, fun z => absurd ⟨⟨Nat.le_refl _, Nat.lt_succ_self _⟩, hw⟩ z⟩
  · exact ⟨fun z => by have := z.1; omega, fun _ => ho v e⟩
theorem jmw.all {g : Int} {D n : Nat} {ST2 : Nat → Int32} (h : jmw g D n n 0 1 (fun _ => 0) ST2) : ∀ v : Nat, v < D ^ n → (jwlk g D n v → (ST2 v).toInt = 1) ∧ (¬ jwlk g D n v → (ST2 v).toInt = 0) := fun v hv => by
  have e : v / D ^ n = 0 := Nat.div_eq_of_lt hv
  exact ⟨fun w => (h v).1 ⟨⟨Nat.zero_le _, by omega⟩, w⟩, fun w => by rw [(h v).2 (fun z => w z.2)]; rfl⟩
/-! a new Turnings -/
def jtu (V0 V : jH) (q : Nat) (x1 x2 x3 : Int32) : Prop := ∃ (st qu dg : Nat) (b : Int32), (V0 st = none ∧ V0 qu = none ∧ V0 dg = none) ∧ b.toInt = jdir x1.toInt ∧ (jfI V q 3 0 x1 ∧ jfI V q 3 1 (jst x2) ∧ jfI V q 3 2 b ∧ jfI V q 3 6 0) ∧ (jfR V q 3 3 st ∧ jfR V q 3 4 qu ∧ jfR V q 3 5 dg) ∧ (V st = some (.inl (3, (jroom x3).toInt.toNat, .inl (fun _ => 0))) ∧ V qu = some (.inl (10, (jroom x3).toInt.toNat, .inl (fun _ => 0))) ∧ V dg = some (.inl (11, 6, .inl (fun _ => 0)))) ∧ jfa [q] V0 V
theorem jtu.mk {V0 V : jH} {q st qu dg : Nat} {x1 x2 x3 b : Int32} (n1 : V0 st = none) (n2 : V0 qu = none) (n3 : V0 dg = none) (hb : b.toInt = jdir x1.toInt) (m0 : jfI V q 3 0 x1) (m1 : jfI V q 3 1 (jst x2)) (m2 : jfI V q 3 2 b) (m6 : jfI V q 3 6 0) (r3 : jfR V q 3 3 st) (r4 : jfR V q 3 4 qu) (r5 : jfR V q 3 5 dg) (a1 : V st = some (.inl (3, (jroom x3).toNatClampNeg, .inl (fun _ => 0)))) (a2 : V qu = some (.inl (10, (jroom x3).toNatClampNeg, .inl (fun _ => 0)))) (a3 : V dg = some (.inl (11, 6, .inl (fun _ => 0)))) (hf : jfa [q] V0 V) : jtu V0 V q x1 x2 x3 :=
  ⟨st, qu, dg, b, ⟨n1, n2, n3⟩, hb, ⟨m0, m1, m2, m6⟩, ⟨r3, r4, r5⟩, ⟨a1, a2, a3⟩, hf⟩
theorem jmm_eq {x : Int32} (B : Int32) (h0 : 0 ≤ x.toInt) (h1 : x.toInt ≤ B.toInt) : (if (0 : Int32) < (if B < x then B else x) then (if B < x then B else x) else 0).toInt = x.toInt := by
  have hz : (0 : Int32).toInt = 0 := rfl
  have e : (if B < x then B else x) = x := if_neg (fun z => by rw [jlt] at z; omega)
  rw [e]
  split
  · rfl
  · rename_i h
    rw [jlt] at h
    omega
theorem jroom_eq {x : Int32} (h0 : 0 ≤ x.toInt) (h1 : x.toInt ≤ 10000) : (jroom x).toInt = x.toInt := jmm_eq 10000 h0 h1
theorem jst_eq {x : Int32} (h0 : 0 ≤ x.toInt) (h1 : x.toInt ≤ 6) : (jst x).toInt = x.toInt := jmm_eq 6 h0 h1
/-- a row changed beside other things -/
theorem jrk.mk2 {a s x y z : Nat} {M : Int32} {V V' : jH} (r1 : jfR V a 1 1 s) (r2 : jfR V a 1 2 x) (r3 : jfR V a 1 3 y) (r4 : jfR V a 1 4 z) (hf : ∀ (b : Nat) (e : jE), b ∉ [a, s, x, y, z] → V b = some e → jsh e ∈ jRK → V' b = some e) (m1 : jfI V a 1 0 M) (m2 : jfI V' a 1 0 M) (k1 : jk1 6 s V V') (k2 : jk0 34 x V V') (k3 : jk0 35 y V V') (k4 : jk0 36 z V V') : jrk a V V' := fun s2 x2 y2 z2 q1 q2 q3 q4 => by
  obtain rfl := r1.fun q1
  obtain rfl := r2.fun q2
  obtain rfl := r3.fun q3
  obtain rfl := r4.fun q4
  exact ⟨hf, fun M2 h => by rw [h.fun m1]; exact m2, k1, k2, k3, k4⟩
section JX9
variable {tS : jTS} {M : jM} {d pc : Nat} {ls : List (Option Value)} {st : List Value} {V : jH} {kc ks : Nat} {Q : Option Value → jH → Prop}
theorem Jz_bastB {t a n : Nat} {f : Nat → Int32} {i x : Int32} {r : Int × Int} {p : Nat → Prop} {A : Int} (hx : jEq i.toInt A) {X : Int} (hz : jEq x.toInt X) (hW : WTx p V) (hp : ¬ p a) (hd : decode M.2.1 pc = .ok (.bastore, 1)) (hV : V a = some (.inl (t, n, .inl f))) (ht : jT[t]? = some .byte) (hc : jAc t = .inl r) (hi1 : 0 ≤ A) (hi2 : A < (n : Int)) (h1 : r.1 ≤ X) (h2 : X ≤ r.2) (hnr : ∀ q : Int32, q.toInt = X → vp_nar .byte q = q) (kk : ∀ (V' : jH) (f' : Nat → Int32), WTx p V' → jeff [.inl t] V V' → V' a = some (.inl (t, n, .inl f')) → f' A.toNat = x → (∀ k, k ≠ A.toNat → f' k = f k) → (∀ b : Nat, b ≠ a → V' b = V b) → J tS M d (pc + 1) ls st V' kc ks Q) : J tS M d pc ls (.int x :: .int i :: .ref a :: st) V kc ks Q := by
  cases hx
  cases hz
  have h0 := hW a _ hp hV
  refine J_bast hd hV ht (vp_in_n hi1 hi2) (kk _ _ (hW.put hV jrel.arr (fun _ => ⟨h0.1, h0.2.1, ?_⟩)) (jeff.put hV jrel.arr List.mem_cons_self) jup_self (by rw [hnr x rfl]; exact pk_us) (fun k hk => pk_un hk) (fun b hb => jup_ne hb))
  have h3 := h0.2.2
  dsimp only at h3 ⊢
  rw [hc] at h3 ⊢
  obtain ⟨g, hg, h4⟩ := h3
  cases hg
  refine ⟨_, rfl, fun j hj => ?_⟩
  by_cases hq : j = i.toNatClampNeg
  · subst hq
    rw [hnr x rfl, pk_us]
    exact ⟨h1, h2⟩
  · rw [pk_un hq]
    exact h4 j hj
end JX9
theorem jtu.tell {V0 V : jH} {q : Nat} {x1 x2 x3 : Int32} (h : jtu V0 V q x1 x2 x3) (h2 : 0 ≤ x2.toInt ∧ x2.toInt ≤ 6) (h3 : 0 ≤ x3.toInt ∧ x3.toInt ≤ 10000) : ∃ (st qu dg : Nat) (b sn qz : Int32), (V0 st = none ∧ V0 qu = none ∧ V0 dg = none) ∧ (b.toInt = jdir x1.toInt ∧ sn.toInt = x2.toInt ∧ qz.toInt = 0) ∧ (jfI V q 3 0 x1 ∧ jfI V q 3 1 sn ∧ jfI V q 3 2 b ∧ jfI V q 3 6 qz) ∧ (jfR V q 3 3 st ∧ jfR V q 3 4 qu ∧ jfR V q 3 5 dg) ∧ (V st = some (.inl (3, x3.toInt.toNat, .inl (fun _ => 0))) ∧ V qu = some (.inl (10, x3.toInt.toNat, .inl (fun _ => 0))) ∧ V dg = some (.inl (11, 6, .inl (fun _ => 0)))) ∧ jfa [q] V0 V := by
  obtain ⟨st, qu, dg, b, n, hb, ⟨m0, m1, m2, m6⟩, hr, ⟨a1, a2, a3⟩, hf⟩ := h
  rw [jroom_eq h3.1 h3.2] at a1 a2
  exact ⟨st, qu, dg, b, jst x2, 0, n, ⟨hb, jst_eq h2.1 h2.2, rfl⟩, ⟨m0, m1, m2, m6⟩, hr, ⟨a1, a2, a3⟩, hf⟩
theorem jmem6 {b a s x y z t : Nat} (h : b ∈ [a, s, x, y, z, t]) : b ∈ [a, s, x, y, z] ∨ b = t := by
  simp only [List.mem_cons, List.not_mem_nil, or_false] at h ⊢
  omega
theorem jnm_next {D i : Nat} {d : Int} {T : Nat → Int} (hd : ((D : Nat) : Int) = d) (h0 : 0 ≤ T i) : ((jnm D T i : Nat) : Int) * d + T i = ((jnm D T (i + 1) : Nat) : Int) := by
  show _ = ((jnm D T i * D + (T i).toNat : Nat) : Int)
  rw [Int.natCast_add, Int.natCast_mul, hd, Int.toNat_of_nonneg h0]
theorem jpd_lt {D k p d : Nat} (hp : p < D ^ k) (hd : d < D) : p * D + d < D ^ (k + 1) := by
  have h3 : (p + 1) * D ≤ D ^ k * D := Nat.mul_le_mul_right D hp
  rw [Nat.add_mul, Nat.one_mul] at h3
  rw [Nat.pow_succ]
  omega
theorem jpd_nat {x j d : Int} (hx : 0 ≤ x) (hj : 0 ≤ j) (hd : 0 ≤ d) : (x * j + d).toNat = x.toNat * j.toNat + d.toNat := by
  rw [Int.toNat_add (Int.mul_nonneg hx hj) hd, Int.toNat_mul hx hj]
theorem jpow5 {D k : Nat} (hD : D ≤ 6) (hk : k ≤ 5) : D ^ k ≤ 7776 := by
  have h1 : D ^ k ≤ 6 ^ k := Nat.pow_le_pow_left hD k
  have h2 : 6 ^ k ≤ 6 ^ 5 := Nat.pow_le_pow_right (by decide) hk
  have h3 : (6 : Nat) ^ 5 = 7776 := by decide
  omega
theorem jpw_nat {d : Int} (h : 0 ≤ d) : ∀ n : Nat, jpw d n = ((d.toNat ^ n : Nat) : Int)
  | 0 => rfl
  | n + 1 => by
    show d * jpw d n = _
    rw [jpw_nat h n, Nat.pow_succ, Int.natCast_mul, Int.toNat_of_nonneg h, Int.mul_comm]
/-- between two steps of the outer loop -/
def jbi (g : Int) (D n T R : Nat) (ST QU : Nat → Int32) (q : Int) (h : Nat) : Prop := ∃ L : List Nat, jrs9 (jwlk g D n) R ST QU q L ∧ jbf g D n T (R + 1 - h) h L = jbf g D n T (R + 1) 0 [0]
def jbr (g : Int) (D n T R : Nat) (MT QU : Nat → Int32) (q : Int) (h : Nat) : Prop := ∃ L : List Nat, jrr9 R MT QU q L ∧ jbf g D n T (R + 1 - h) h L = jbf g D n T (R + 1) 0 [0]
theorem jbf_next {g : Int} {D n T R h : Nat} {L : List Nat} (hl : h < L.length) (hR : L.length ≤ R) (e : jbf g D n T (R + 1 - h) h L = jbf g D n T (R + 1) 0 [0]) : jbf g D n T (R + 1 - (h + 1)) (h + 1) (jtas g D n T (jnth L h) L (n * T)) = jbf g D n T (R + 1) 0 [0] := by
  rw [show R + 1 - h = (R + 1 - (h + 1)) + 1 by omega, jbf_step hl] at e
  exact e
theorem jto_eq {g t k : Int} {D n v kn : Nat} {T : Nat → Int} (hk : ((kn : Nat) : Int) = k) (h : ∀ i : Nat, i < n → T i = jdg9 D n v i) : jnm D (jTp g t k T) n = jto g D n v kn t := by
  subst hk
  exact jnm_congr n (jTp_congr h)
theorem jto_lt {g t k : Int} {D n v : Nat} {kn : Nat} (hk : ((kn : Nat) : Int) = k) (hg : 0 ≤ g ∧ g ≤ 3) (ht : 0 ≤ t ∧ t < jtur g) (hD : ((D : Nat) : Int) = jdir g) (h0 : 0 < D) : jto g D n v kn t < D ^ n := by
  refine jnm_lt n (fun i hi => ?_)
  rw [hD]
  exact jTp_rng (n := (n : Int)) hg ht (fun j _ => by have q := jdg9_b (D := D) (n := n) (v := v) (i := j) h0; omega) i (by omega)
theorem jto_walk {g t k : Int} {D n v kn : Nat} (hk : ((kn : Nat) : Int) = k) (hg : 0 ≤ g ∧ g ≤ 3) (ht : 0 ≤ t ∧ t < jtur g) (hD : ((D : Nat) : Int) = jdir g) (h0 : 0 < D) : jwlk g D n (jto g D n v kn t) ↔ jav g (jTp g t k (jdg9 D n v)) n := by
  subst hk
  refine jwlk_iff (fun i hi => ?_)
  rw [hD]
  exact jTp_rng (n := (n : Int)) hg ht (fun j _ => by have q := jdg9_b (D := D) (n := n) (v := v) (i := j) h0; omega) i (by omega)
/-- put on what counts the turnings, with all that it says -/
theorem w_X6_put_y {tS : jTS} (d : Nat) (V0 : jH) {f : Nat → Int32} (a : Nat) (x y : Int32) (hW : WT V0) (hA : V0 a = some (.inl (9, 7, .inl f))) (h0 : 0 ≤ x.toInt) (h1 : x.toInt < 7) (hy : ¬ y.toInt = -1) : jTot tS mX6_put d [.ref a, .int x, .int y] V0 0 0 (fun r V => r = none ∧ WT V ∧ jeff [.inl 9] V0 V ∧ jle9 V0 V ∧ (∀ b : Nat, b ≠ a → V b = V0 b) ∧ ∃ G : Nat → Int32, V a = some (.inl (9, 7, .inl G)) ∧ G x.toInt.toNat = y ∧ ((f x.toInt.toNat).toInt = -1 → jcn (-1) G 7 = jcn (-1) f 7 + 1) ∧ ∀ k : Nat, k ≠ x.toInt.toNat → G k = f k) := by
  refine jTot.of_J [some (.ref a), some (.int x), some (.int y)] moX6_put (Nat.le_of_ble_eq_true rfl) rfl ?_
  refine J_aload_n dX6_put_0 rfl ?_
  refine J_ifnull dX6_put_1 ?_
  refine J_iload_n dX6_put_4 rfl ?_
  refine J_if_lt (tgt := 18) dX6_put_5 (by decide) (fun c => absurd c (by rw [jlt, Int32.toInt_zero]; omega)) (fun _ => ?_)
  refine J_iload_n dX6_put_8 rfl ?_
  refine J_aload_n dX6_put_9 rfl ?_
  refine J_alen (v := Int32.ofNat 7) dX6_put_10 hA rfl rfl ?_
  refine J_icmp_ge (tgt := 18) dX6_put_11 (by decide) (fun c => absurd c (by rw [jle, jn_len (by decide)]; omega)) (fun _ => ?_)
  refine J_aload_n dX6_put_14 rfl ?_
  refine J_iload_n dX6_put_15 rfl ?_
  refine J_iload_n dX6_put_16 rfl ?_
  refine J_iast dX6_put_17 hA rfl (vp_in_n h0 h1) ?_
  have hG : (upd f x.toNatClampNeg y) x.toInt.toNat = y := pk_us
  have hO : ∀ k, k ≠ x.toInt.toNat → upd f x.toNatClampNeg y k = f k := fun k hk => pk_un hk
  generalize upd f x.toNatClampNeg y = G at hG hO ⊢
  have hW0 := hW a _ id hA
  have hWn : WT (jup V0 a (.inl (9, 7, .inl G))) := hW.put hA jrel.arr (fun _ => ⟨hW0.1, hW0.2.1, G, rfl, fun j _ => j_rng _⟩)
  have hy2 : ¬ (G x.toInt.toNat).toInt = -1 := by rw [hG]; exact hy
  refine J_ret (r := none) dX6_put_18 ⟨rfl, rfl⟩ ⟨rfl, hWn, jeff.put hA jrel.arr List.mem_cons_self, fun b h q => ?_, fun b hb => jup_ne hb, G, jup_self, hG, fun hm => jcn_up hm hy2 hO 7 (by omega), hO⟩
  by_cases hb : b = a
  · subst hb
    cases q.symm.trans hA
    exact ⟨G, jup_self, jcn_ge hy2 hO 7⟩
  · exact ⟨h, (jup_ne hb).trans q, Nat.le_refl _⟩
