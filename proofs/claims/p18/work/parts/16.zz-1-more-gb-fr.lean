/-! forms and turnings, as they are kept: by the class's tallies, by the reference -/
/-- all forms of n steps -/
noncomputable def jfo (g : Int) (n : Nat) : Nat := jfc g n n (fun _ => 0)
/-- a row's number, the first digit the highest -/
def jnm (D : Nat) (T : Nat → Int) : Nat → Nat
  | 0 => 0
  | i + 1 => jnm D T i * D + (T i).toNat
/-- where the k-th place and the turn t lead from a number -/
def jto (g : Int) (D n v k : Nat) (t : Int) : Nat := jnm D (jTp g t (k : Int) (jdg9 D n v)) n
/-- one more, if it is so and isn't met -/
noncomputable def jadd (p : Nat → Prop) (q : List Nat) (v : Nat) : List Nat := jif (¬ v ∈ q ∧ p v) (q ++ [v]) q
/-- a number stands for a walk -/
def jwlk (g : Int) (D n v : Nat) : Prop := jav g (jdg9 D n v) n
/-- the first c turnings of a number, T turns a place -/
noncomputable def jtas (g : Int) (D n T v : Nat) (q : List Nat) : Nat → List Nat
  | 0 => q
  | c + 1 => jadd (jwlk g D n) (jtas g D n T v q c) (jto g D n v (c / T) ((c % T : Nat) : Int))
/-- a list's members, by their places -/
def jnth : List Nat → Nat → Nat
  | [], _ => 0
  | a :: _, 0 => a
  | _ :: l, i + 1 => jnth l i
/-- the queue, its members taken one after another -/
noncomputable def jbf (g : Int) (D n T : Nat) : Nat → Nat → List Nat → List Nat
  | 0, _, q => q
  | m + 1, h, q => if h < q.length then jbf g D n T m (h + 1) (jtas g D n T (jnth q h) q (n * T)) else q
noncomputable def jre (g : Int) (n : Nat) : Nat := (jbf g (jdir g).toNat n (jtur g).toNat ((jdir g).toNat ^ n + 1) 0 [0]).length
/-- a tally's memory of forms and turnings -/
def jfr (V : jH) (t : Nat) (B : Nat × Nat) (g : Int) : Prop := ∃ FO RN : Nat → Int32, jfR V t 2 8 B.1 ∧ jfR V t 2 9 B.2 ∧ V B.1 = some (.inl (13, 8, .inl FO)) ∧ V B.2 = some (.inl (9, 7, .inl RN)) ∧ (∀ n : Nat, n < 8 → (FO n).toInt = -1 ∨ (FO n).toInt = ((jfo g n : Nat) : Int)) ∧ ∀ n : Nat, n < 7 → (RN n).toInt = -1 ∨ (RN n).toInt = ((jre g n : Nat) : Int)
def jTF (V : jH) (x : Nat) : Prop := ∃ (fs : List Value) (tl : Nat) (f : Nat → Option Nat) (B : Nat → Nat × Nat), V x = some (.inr (4, fs)) ∧ fs[5]? = some (.ref tl) ∧ V tl = some (.inl (5, 4, .inr (.inr (.inr (.inr f))))) ∧ (∀ j : Nat, j < 4 → f j = none ∨ ∃ t : Nat, f j = some t ∧ jfr V t (B j) (j : Int)) ∧ ∀ i j : Nat, i < 4 → j < 4 → i ≠ j → f i ≠ none → f j ≠ none → (B i).1 ≠ (B j).1 ∧ (B i).2 ≠ (B j).2
theorem jfr.up {V V' : jH} {t : Nat} {B : Nat × Nat} {g : Int} (h : jfr V t B g) (hx : jext V V') (h1 : ∀ e : jE, V B.1 = some e → jsh e = .inl 13 → V' B.1 = some e) (h2 : ∀ e : jE, V B.2 = some e → jsh e = .inl 9 → V' B.2 = some e) : jfr V' t B g := by
  obtain ⟨FO, RN, r1, r2, a1, a2, w1, w2⟩ := h
  exact ⟨FO, RN, r1.mono hx, r2.mono hx, h1 _ a1 rfl, h2 _ a2 rfl, w1, w2⟩
theorem jTF.keep {E : List jKd} {V V' : jH} {x : Nat} (h : jTF V x) (he : jeff E V V') (hn : ∀ k ∈ ([.inl 5, .inl 13, .inl 9] : List jKd), k ∉ E) : jTF V' x := by
  obtain ⟨fs, tl, f, B, h1, h2, h3, h4, h5⟩ := h
  obtain ⟨fs2, g1, g2⟩ := he.1.keep h1
  refine ⟨fs2, tl, f, B, g1, g2 _ _ h2, he.2 _ _ h3 (hn _ (jin_of rfl)), fun j hj => ?_, h5⟩
  rcases h4 j hj with q | ⟨t, q, r⟩
  · exact Or.inl q
  · exact Or.inr ⟨t, q, r.up he.1 (fun e k1 k2 => he.2 _ _ k1 (by rw [k2]; exact hn _ (jin_of rfl))) (fun e k1 k2 => he.2 _ _ k1 (by rw [k2]; exact hn _ (jin_of rfl)))⟩
theorem jTF.fresh {V V' : jH} {x : Nat} {fs : List Value} {tl t j : Nat} {f f2 : Nat → Option Nat} (h : jTF V x) (h1 : V x = some (.inr (4, fs))) (h2 : fs[5]? = some (.ref tl)) (h3 : V tl = some (.inl (5, 4, .inr (.inr (.inr (.inr f)))))) (hx : jext V V') (h3' : V' tl = some (.inl (5, 4, .inr (.inr (.inr (.inr f2)))))) (hf : f j = none) (hf2 : f2 j = some t) (hfo : ∀ i, i ≠ j → f2 i = f i) (hnf : jtnf V V' t) (hfa : jfa [tl] V V') : jTF V' x := by
  obtain ⟨fs0, tl0, f0, B, k1, k2, k3, h4, h5⟩ := h
  cases h1.symm.trans k1
  cases h2.symm.trans k2
  cases h3.symm.trans k3
  obtain ⟨fo, rn, FO, RN, ⟨n1, n2⟩, r8, r9, a8, a9, w1, w2⟩ := hnf
  obtain ⟨fs2, g1, g2⟩ := hx.keep h1
  have kp : ∀ (b : Nat) (e : jE), V b = some e → jsh e ≠ .inl 5 → V' b = some e := fun b e q z => hfa b e (fun w => by
    rw [List.mem_singleton.mp w, h3] at q
    cases q
    exact z rfl) q
  refine ⟨fs2, tl, f2, fun i => if i = j then (fo, rn) else B i, g1, g2 _ _ h2, h3', fun i hi => ?_, fun a b ha hb hab qa qb => ?_⟩
  · by_cases e : i = j
    · subst e
      refine Or.inr ⟨t, hf2, ?_⟩
      dsimp only
      rw [if_pos rfl]
      exact ⟨FO, RN, r8, r9, a8, a9, fun n hn => Or.inl (w1 n hn), fun n hn => Or.inl (w2 n hn)⟩
    · dsimp only
      rw [hfo i e, if_neg e]
      rcases h4 i hi with q | ⟨u, q, r⟩
      · exact Or.inl q
      · exact Or.inr ⟨u, q, r.up hx (fun e9 m1 m2 => kp _ _ m1 (by rw [m2]; decide)) (fun e9 m1 m2 => kp _ _ m1 (by rw [m2]; decide))⟩
  · have key : ∀ i : Nat, i < 4 → i ≠ j → f2 i ≠ none → (B i).1 ≠ fo ∧ (B i).2 ≠ rn := fun i hi e q => by
      rw [hfo i e] at q
      rcases h4 i hi with z | ⟨u, z, FO2, RN2, -, -, c1, c2, -⟩
      · exact absurd z q
      · exact ⟨fun z => (by rw [z, n1] at c1; cases c1), fun z => (by rw [z, n2] at c2; cases c2)⟩
    dsimp only
    by_cases ea : a = j
    · subst ea
      rw [if_pos rfl, if_neg (fun z => hab z.symm)]
      have q := key b hb (fun z => hab z.symm) qb
      exact ⟨fun z => q.1 z.symm, fun z => q.2 z.symm⟩
    · by_cases eb : b = j
      · subst eb
        rw [if_neg hab, if_pos rfl]
        exact key a ha hab qa
      · rw [if_neg ea, if_neg eb]
        exact h5 a b ha hb hab (by rw [← hfo a ea]; exact qa) (by rw [← hfo b eb]; exact qb)
/-- one tally's memory, and what may be done to it -/
theorem jTF.at {V : jH} {x : Nat} {fs : List Value} {tl t j : Nat} {f : Nat → Option Nat} (h : jTF V x) (h1 : V x = some (.inr (4, fs))) (h2 : fs[5]? = some (.ref tl)) (h3 : V tl = some (.inl (5, 4, .inr (.inr (.inr (.inr f)))))) (hj : j < 4) (hf : f j = some t) : ∃ B : Nat × Nat, jfr V t B (j : Int) ∧ ∀ V' : jH, jext V V' → V' tl = V tl → jfr V' t B (j : Int) → (∀ (b : Nat) (e : jE), V b = some e → b ≠ B.1 → jsh e = .inl 13 → V' b = some e) → (∀ (b : Nat) (e : jE), V b = some e → b ≠ B.2 → jsh e = .inl 9 → V' b = some e) → jTF V' x := by
  obtain ⟨fs0, tl0, f0, B, k1, k2, k3, h4, h5⟩ := h
  cases h1.symm.trans k1
  cases h2.symm.trans k2
  cases h3.symm.trans k3
  have hfr : jfr V t (B j) (j : Int) := by
    rcases h4 j hj with q | ⟨u, q, r⟩
    · rw [hf] at q; cases q
    · cases hf.symm.trans q
      exact r
  refine ⟨B j, hfr, fun V' hx htl hnew f13 f9 => ?_⟩
  obtain ⟨fs2, g1, g2⟩ := hx.keep h1
  refine ⟨fs2, tl, f, B, g1, g2 _ _ h2, htl.trans h3, fun i hi => ?_, h5⟩
  by_cases e : i = j
  · subst e
    exact Or.inr ⟨t, hf, hnew⟩
  · rcases h4 i hi with q | ⟨u, q, r⟩
    · exact Or.inl q
    · have s := h5 i j hi hj e (by rw [q]; simp) (by rw [hf]; simp)
      exact Or.inr ⟨u, q, r.up hx (fun e9 m1 m2 => f13 _ _ m1 s.1 m2) (fun e9 m1 m2 => f9 _ _ m1 s.2 m2)⟩
theorem jTF.init {V : jH} {x tl : Nat} {fs : List Value} (h1 : V x = some (.inr (4, fs))) (h2 : fs[5]? = some (.ref tl)) (h3 : V tl = some (.inl (5, 4, .inr (.inr (.inr (.inr (fun _ => none))))))) : jTF V x :=
  ⟨fs, tl, _, fun _ => (0, 0), h1, h2, h3, fun _ _ => Or.inl rfl, fun _ _ _ _ _ q => absurd rfl q⟩
/-- the reference's memory of forms and turnings -/
def jRF (V : jH) (m : Nat) : Prop := ∃ (fd rd : Nat) (FD RD : Nat → Int32), jfR V m 5 18 fd ∧ jfR V m 5 19 rd ∧ V fd = some (.inl (27, 32, .inl FD)) ∧ V rd = some (.inl (28, 28, .inl RD)) ∧ (∀ g n : Nat, g ≤ 3 → n ≤ 7 → (FD (8 * g + n)).toInt = 0 ∨ (FD (8 * g + n)).toInt = ((jfo (g : Int) n : Nat) : Int)) ∧ ∀ g n : Nat, g ≤ 3 → n ≤ 6 → (RD (7 * g + n)).toInt = 0 ∨ (RD (7 * g + n)).toInt = ((jre (g : Int) n : Nat) : Int)
theorem jRF.keep {E : List jKd} {V V' : jH} {m : Nat} (h : jRF V m) (he : jeff E V V') (hn : ∀ k ∈ ([.inl 27, .inl 28] : List jKd), k ∉ E) : jRF V' m := by
  obtain ⟨fd, rd, FD, RD, r1, r2, a1, a2, w⟩ := h
  exact ⟨fd, rd, FD, RD, r1.mono he.1, r2.mono he.1, he.2 _ _ a1 (hn _ (jin_of rfl)), he.2 _ _ a2 (hn _ (jin_of rfl)), w⟩
theorem jRF.init {V : jH} {m fd rd : Nat} {fs : List Value} (hO : V m = some (.inr (5, fs))) (f1 : fs[18]? = some (.ref fd)) (f2 : fs[19]? = some (.ref rd)) (a1 : V fd = some (.inl (27, 32, .inl (fun _ => 0)))) (a2 : V rd = some (.inl (28, 28, .inl (fun _ => 0)))) : jRF V m :=
  ⟨fd, rd, fun _ => 0, fun _ => 0, ⟨fs, hO, f1⟩, ⟨fs, hO, f2⟩, a1, a2, fun _ _ _ _ => Or.inl rfl, fun _ _ _ _ => Or.inl rfl⟩
