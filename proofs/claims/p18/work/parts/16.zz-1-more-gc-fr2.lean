/-! forms: what one direction more gives -/
theorem jrv.copy {g : Int} {T U : Nat → Int} {N N' : Nat} {X Y Z X2 Y2 Z2 : Nat → Int32} (h : jrv g T N X Y Z) (hn : N' = N) (hT : ∀ q, q < N → T q = U q) (hx : ∀ i : Nat, i ≤ N → X2 i = X i ∧ Y2 i = Y i ∧ Z2 i = Z i) : jrv g U N' X2 Y2 Z2 := by
  subst hn
  intro i hi
  obtain ⟨a, b, c⟩ := hx i hi
  rw [a, b, c]
  exact (h.congr hT) i hi
theorem jsat_congr {T U : Nat → Int} {N : Nat} {d : Int} (h : ∀ q, q < N → T q = U q) : ∀ q : Nat, q < N + 1 → jsat T N d q = jsat U N d q := fun q hq => by
  by_cases c : q = N
  · rw [c, jsat_at, jsat_at]
  · rw [jsat_ne c, jsat_ne c]
    exact h q (by omega)
noncomputable def jfd (g : Int) (n k N : Nat) (T : Nat → Int) (d : Nat) : Nat := jone (jav g (jsat T N (d : Int)) (N + 1)) * jfc g n k (jsat T N (d : Int))
theorem jfd_yes {g : Int} {n k N d : Nat} {T : Nat → Int} (h : jav g (jsat T N (d : Int)) (N + 1)) : jfd g n k N T d = jfc g n k (jsat T N (d : Int)) := by
  unfold jfd
  rw [jone_yes h, Nat.one_mul]
theorem jfd_no {g : Int} {n k N d : Nat} {T : Nat → Int} (h : ¬ jav g (jsat T N (d : Int)) (N + 1)) : jfd g n k N T d = 0 := by
  unfold jfd
  rw [jone_no h, Nat.zero_mul]
theorem jfc_0 {g : Int} {n : Nat} {T : Nat → Int} : jfc g n 0 T = jone (jow g T n) := rfl
theorem jfc_step2 {g : Int} {n k N : Nat} {T : Nat → Int} (h : n = N + (k + 1)) : jfc g n (k + 1) T = jsu (jfd g n k N T) (jdir g).toNat := jfc_step h
theorem jfd_le {g : Int} {n k N d : Nat} {T : Nat → Int} (hD : jdir g ≤ 6) (hk : k ≤ 6) : jfd g n k N T d ≤ 46656 := by
  have h1 := jfc_le (g := g) (n := n) (D := (jdir g).toNat) rfl k (jsat T N (d : Int))
  have h2 := jone_le (jav g (jsat T N (d : Int)) (N + 1))
  have h3 : (jdir g).toNat ^ k ≤ 6 ^ k := Nat.pow_le_pow_left (by omega) k
  have h4 : 6 ^ k ≤ 6 ^ 6 := Nat.pow_le_pow_right (by decide) hk
  have h5 : (6 : Nat) ^ 6 = 46656 := by decide
  unfold jfd
  refine Nat.le_trans (Nat.mul_le_mul h2 h1) ?_
  rw [Nat.one_mul]
  omega
theorem jfd_sum {g : Int} {n k N c : Nat} {T : Nat → Int} (hD : jdir g ≤ 6) (hk : k ≤ 6) (hc : c ≤ 6) : jsu (jfd g n k N T) c ≤ 279936 := by
  have h1 := jsu_le (f := jfd g n k N T) (m := 46656) c (fun d _ => jfd_le hD hk)
  have h2 : c * 46656 ≤ 6 * 46656 := Nat.mul_le_mul_right _ hc
  omega
theorem jsu_skip {f : Nat → Nat} {c : Nat} (h : f c = 0) : jsu f (c + 1) = jsu f c := by
  show jsu f c + f c = jsu f c
  rw [h, Nat.add_zero]
/-! one memory of a tally is written, the others stay -/
abbrev jFK : List jKd := [.inl 5, .inl 13, .inl 9]
def jfk (a : Nat) (V V' : jH) : Prop := jext V V' ∧ ∀ (b : Nat) (e : jE), V b = some e → b ≠ a → jsh e ∈ jFK → V' b = some e
theorem jfk.of {E : List jKd} {a : Nat} {V V' : jH} (he : jeff E V V') (hn : ∀ k ∈ jFK, k ∉ E) : jfk a V V' := ⟨he.1, fun b e q _ k => he.2 b e q (hn _ k)⟩
theorem jfk.keep {E : List jKd} {a : Nat} {V V' V2 : jH} (h : jfk a V V') (he : jeff E V' V2) (hn : ∀ k ∈ jFK, k ∉ E) : jfk a V V2 := ⟨h.1.trans he.1, fun b e q z k => he.2 b e (h.2 b e q z k) (hn _ k)⟩
theorem jfk.put {E : List jKd} {a : Nat} {V V' V2 : jH} (h : jfk a V V') (he : jeff E V' V2) (hB : ∀ b : Nat, b ≠ a → V2 b = V' b) : jfk a V V2 := ⟨h.1.trans he.1, fun b e q z k => (hB b z).trans (h.2 b e q z k)⟩
theorem jfk.rf {a : Nat} {V : jH} : jfk a V V := ⟨jext.refl V, fun _ _ h _ _ => h⟩
theorem jTF.at1 {V : jH} {x : Nat} {fs : List Value} {tl t j : Nat} {f : Nat → Option Nat} (h : jTF V x) (h1 : V x = some (.inr (4, fs))) (h2 : fs[5]? = some (.ref tl)) (h3 : V tl = some (.inl (5, 4, .inr (.inr (.inr (.inr f)))))) (hj : j < 4) (hf : f j = some t) : ∃ (fo : Nat) (FO : Nat → Int32), jfR V t 2 8 fo ∧ V fo = some (.inl (13, 8, .inl FO)) ∧ (∀ n : Nat, n < 8 → (FO n).toInt = -1 ∨ (FO n).toInt = ((jfo (j : Int) n : Nat) : Int)) ∧ ∀ (V' : jH) (FO2 : Nat → Int32), jfk fo V V' → V' fo = some (.inl (13, 8, .inl FO2)) → (∀ n : Nat, n < 8 → (FO2 n).toInt = -1 ∨ (FO2 n).toInt = ((jfo (j : Int) n : Nat) : Int)) → jTF V' x := by
  obtain ⟨⟨fo, rn⟩, ⟨FO, RN, r1, r2, a1, a2, w1, w2⟩, hup⟩ := h.at h1 h2 h3 hj hf
  have n1 : tl ≠ fo := fun z => by rw [z] at h3; cases h3.symm.trans a1
  have n2 : rn ≠ fo := fun z => by rw [show (fo, rn).2 = (fo, rn).1 from z] at a2; cases a1.symm.trans a2
  refine ⟨fo, FO, r1, a1, w1, fun V' FO2 hk hA w => ?_⟩
  refine hup V' hk.1 ((hk.2 _ _ h3 n1 (jin_of rfl)).trans h3.symm) ⟨FO2, RN, r1.mono hk.1, r2.mono hk.1, hA, hk.2 _ _ a2 n2 (jin_of rfl), w, w2⟩ (fun b e q z k => hk.2 b e q z (by rw [k]; exact jin_of rfl)) (fun b e q z k => ?_)
  by_cases c : b = fo
  · rw [c, a1] at q
    cases q
    cases k
  · exact hk.2 b e q c (by rw [k]; exact jin_of rfl)
theorem jTF.at2 {V : jH} {x : Nat} {fs : List Value} {tl t j : Nat} {f : Nat → Option Nat} (h : jTF V x) (h1 : V x = some (.inr (4, fs))) (h2 : fs[5]? = some (.ref tl)) (h3 : V tl = some (.inl (5, 4, .inr (.inr (.inr (.inr f)))))) (hj : j < 4) (hf : f j = some t) : ∃ (rn : Nat) (RN : Nat → Int32), jfR V t 2 9 rn ∧ V rn = some (.inl (9, 7, .inl RN)) ∧ (∀ n : Nat, n < 7 → (RN n).toInt = -1 ∨ (RN n).toInt = ((jre (j : Int) n : Nat) : Int)) ∧ ∀ (V' : jH) (RN2 : Nat → Int32), jfk rn V V' → V' rn = some (.inl (9, 7, .inl RN2)) → (∀ n : Nat, n < 7 → (RN2 n).toInt = -1 ∨ (RN2 n).toInt = ((jre (j : Int) n : Nat) : Int)) → jTF V' x := by
  obtain ⟨⟨fo, rn⟩, ⟨FO, RN, r1, r2, a1, a2, w1, w2⟩, hup⟩ := h.at h1 h2 h3 hj hf
  have n1 : tl ≠ rn := fun z => by rw [z] at h3; cases h3.symm.trans a2
  have n2 : fo ≠ rn := fun z => by rw [show (fo, rn).1 = (fo, rn).2 from z] at a1; cases a1.symm.trans a2
  refine ⟨rn, RN, r2, a2, w2, fun V' RN2 hk hA w => ?_⟩
  refine hup V' hk.1 ((hk.2 _ _ h3 n1 (jin_of rfl)).trans h3.symm) ⟨FO, RN2, r1.mono hk.1, r2.mono hk.1, hk.2 _ _ a1 n2 (jin_of rfl), hA, w1, w⟩ (fun b e q z k => ?_) (fun b e q z k => hk.2 b e q z (by rw [k]; exact jin_of rfl))
  by_cases c : b = rn
  · rw [c, a2] at q
    cases q
    cases k
  · exact hk.2 b e q c (by rw [k]; exact jin_of rfl)
/-! the reference's numbers -/
theorem jpow7 {D k : Nat} (hD : D ≤ 6) (hk : k ≤ 7) : D ^ k ≤ 279936 := by
  have h1 : D ^ k ≤ 6 ^ k := Nat.pow_le_pow_left hD k
  have h2 : 6 ^ k ≤ 6 ^ 7 := Nat.pow_le_pow_right (by decide) hk
  have h3 : (6 : Nat) ^ 7 = 279936 := by decide
  omega
theorem jpw_next {p x : Int} {k : Nat} (h : p = ((x.toNat ^ k : Nat) : Int)) (hx : 0 ≤ x) : p * x = ((x.toNat ^ (k + 1) : Nat) : Int) := by
  rw [Nat.pow_succ, Int.natCast_mul, Int.toNat_of_nonneg hx, h]
theorem jdv_step {d : Int} {v k : Nat} (h : 0 < d) : ((v / d.toNat ^ k : Nat) : Int) / d = ((v / d.toNat ^ (k + 1) : Nat) : Int) := by
  have e : ((d.toNat : Nat) : Int) = d := Int.toNat_of_nonneg (by omega)
  rw [Nat.pow_succ, ← Nat.div_div_eq_div_mul, Int.natCast_ediv (v / d.toNat ^ k), e]
theorem jdv_dig {d : Int} {n v k i : Nat} (h : 0 < d) (hk : k = n - 1 - i) : ((v / d.toNat ^ k : Nat) : Int) % d = jdg9 d.toNat n v i := by
  have e : ((d.toNat : Nat) : Int) = d := Int.toNat_of_nonneg (by omega)
  subst hk
  unfold jdg9
  rw [Int.natCast_emod (v / d.toNat ^ (n - 1 - i)), e]
theorem jsu_inc {f : Nat → Nat} {c : Nat} (h : f c = 1) : ((jsu f (c + 1) : Nat) : Int) = ((jsu f c : Nat) : Int) + 1 := by
  show ((jsu f c + f c : Nat) : Int) = _
  rw [h]
  omega
theorem jsu_one {f : Nat → Nat} {c : Nat} (h : ∀ d : Nat, d < c → f d ≤ 1) : jsu f c ≤ c := by
  have q := jsu_le (f := f) (m := 1) c h
  omega
theorem jffo_le (g : Int) (D n v : Nat) : jffo g D n v ≤ 1 := jone_le _
theorem jfd_set {FD FD2 : Nat → Int32} {g n K : Nat} (hK : K = 8 * g + n) (hn : n ≤ 7) (hw : ∀ g n : Nat, g ≤ 3 → n ≤ 7 → (FD (8 * g + n)).toInt = 0 ∨ (FD (8 * g + n)).toInt = ((jfo (g : Int) n : Nat) : Int)) (hv : (FD2 K).toInt = ((jfo (g : Int) n : Nat) : Int)) (ho : ∀ i : Nat, i ≠ K → FD2 i = FD i) : ∀ g n : Nat, g ≤ 3 → n ≤ 7 → (FD2 (8 * g + n)).toInt = 0 ∨ (FD2 (8 * g + n)).toInt = ((jfo (g : Int) n : Nat) : Int) := fun a b ha hb => by
  subst hK
  by_cases e : 8 * a + b = 8 * g + n
  · obtain rfl : a = g := by omega
    obtain rfl : b = n := by omega
    exact Or.inr hv
  · rw [ho _ e]
    exact hw a b ha hb
theorem jrd_set {RD RD2 : Nat → Int32} {g n K : Nat} (hK : K = 7 * g + n) (hn : n ≤ 6) (hw : ∀ g n : Nat, g ≤ 3 → n ≤ 6 → (RD (7 * g + n)).toInt = 0 ∨ (RD (7 * g + n)).toInt = ((jre (g : Int) n : Nat) : Int)) (hv : (RD2 K).toInt = ((jre (g : Int) n : Nat) : Int)) (ho : ∀ i : Nat, i ≠ K → RD2 i = RD i) : ∀ g n : Nat, g ≤ 3 → n ≤ 6 → (RD2 (7 * g + n)).toInt = 0 ∨ (RD2 (7 * g + n)).toInt = ((jre (g : Int) n : Nat) : Int) := fun a b ha hb => by
  subst hK
  by_cases e : 7 * a + b = 7 * g + n
  · obtain rfl : a = g := by omega
    obtain rfl : b = n := by omega
    exact Or.inr hv
  · rw [ho _ e]
    exact hw a b ha hb
