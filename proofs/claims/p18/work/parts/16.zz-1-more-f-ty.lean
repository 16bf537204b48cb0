/-! tallies in the heap; what the reference keeps -/
theorem jeff.freshL {E : List jKd} {V0 V V' : jH} {L : List Nat} (h : jeff E V0 V) (ha : ∀ a ∈ L, V0 a = none) (hx : jfp L V V') : jeff E V0 V' := by
  have key : ∀ (b : Nat) (e : jE), V0 b = some e → V' b = V b := fun b e hb => hx b (fun z => by rw [ha b z] at hb; cases hb)
  refine ⟨fun b e hb => ?_, fun b e hb hn => (key b e hb).trans (h.2 b e hb hn)⟩
  obtain ⟨e', h1, h2⟩ := h.1 b e hb
  exact ⟨e', (key b e hb).trans h1, h2⟩
theorem jfa.fp {L L' : List Nat} {V0 V V' : jH} (h : jfa L V0 V) (ha : ∀ a ∈ L', V0 a = none) (hx : jfp L' V V') : jfa L V0 V' := fun b e hb q => (hx b (fun z => by rw [ha b z] at q; cases q)).trans (h b e hb q)
/-- a tally of a ground: its numbers, its cells (taken, walks, squares, rings, bridges) -/
def jty (V : jH) (t : Nat) (P : jad) (g : Int) : Prop := ∃ (gv R sd cd tg sp : Int32) (ln : Nat) (TK WC : Nat → Int32) (SQ : Nat → Int64) (RC BC : Nat → Int32), (gv.toInt = g ∧ R.toInt = jRg g ∧ sd.toInt = 2 * jRg g + 1 ∧ (ln : Int) = jLg g) ∧ (jfI V t 2 0 gv ∧ jfI V t 2 1 R ∧ jfI V t 2 2 sd ∧ jfI V t 2 11 cd ∧ jfI V t 2 12 tg ∧ jfI V t 2 13 sp) ∧ (jfR V t 2 3 P.1 ∧ jfR V t 2 4 P.2.1 ∧ jfR V t 2 5 P.2.2.1 ∧ jfR V t 2 6 P.2.2.2.1 ∧ jfR V t 2 7 P.2.2.2.2) ∧ (V P.1 = some (.inl (2, ln, .inl TK)) ∧ V P.2.1 = some (.inl (8, 21, .inl WC)) ∧ V P.2.2.1 = some (.inl (1, 21, .inr (.inl SQ))) ∧ V P.2.2.2.1 = some (.inl (37, 21, .inl RC)) ∧ V P.2.2.2.2 = some (.inl (38, 21, .inl BC))) ∧ jtk g TK [] ∧ jtal g WC SQ RC BC cd.toInt tg.toInt sp.toInt
abbrev jtyl (t : Nat) (P : jad) : List Nat := [t, P.1, P.2.1, P.2.2.1, P.2.2.2.1, P.2.2.2.2]
abbrev jTK : List jKd := [.inr 2, .inl 2, .inl 8, .inl 1, .inl 37, .inl 38]
theorem jfI.same {V V' : jH} {a ci k : Nat} {x : Int32} (h : jfI V a ci k x) (hs : V' a = V a) : jfI V' a ci k x := by
  obtain ⟨fs, h1, h2⟩ := h
  exact ⟨fs, hs.trans h1, h2⟩
theorem jfR.same {V V' : jH} {a ci k b : Nat} (h : jfR V a ci k b) (hs : V' a = V a) : jfR V' a ci k b := by
  obtain ⟨fs, h1, h2⟩ := h
  exact ⟨fs, hs.trans h1, h2⟩
theorem jty.same {V V' : jH} {t : Nat} {P : jad} {g : Int} (h : jty V t P g) (hs : ∀ b ∈ jtyl t P, V' b = V b) : jty V' t P g := by
  obtain ⟨gv, R, sd, cd, tg, sp, ln, TK, WC, SQ, RC, BC, h1, ⟨a1, a2, a3, a4, a5, a6⟩, ⟨r1, r2, r3, r4, r5⟩, ⟨c1, c2, c3, c4, c5⟩, h5, h6⟩ := h
  have s0 := hs t (by simp [jtyl])
  have s1 := hs P.1 (by simp [jtyl])
  have s2 := hs P.2.1 (by simp [jtyl])
  have s3 := hs P.2.2.1 (by simp [jtyl])
  have s4 := hs P.2.2.2.1 (by simp [jtyl])
  have s5 := hs P.2.2.2.2 (by simp [jtyl])
  exact ⟨gv, R, sd, cd, tg, sp, ln, TK, WC, SQ, RC, BC, h1, ⟨a1.same s0, a2.same s0, a3.same s0, a4.same s0, a5.same s0, a6.same s0⟩, ⟨r1.same s0, r2.same s0, r3.same s0, r4.same s0, r5.same s0⟩, ⟨s1.trans c1, s2.trans c2, s3.trans c3, s4.trans c4, s5.trans c5⟩, h5, h6⟩
theorem jty.mem {V : jH} {t : Nat} {P : jad} {g : Int} (h : jty V t P g) : ∀ b ∈ jtyl t P, ∃ e : jE, V b = some e ∧ jsh e ∈ jTK := by
  obtain ⟨gv, R, sd, cd, tg, sp, ln, TK, WC, SQ, RC, BC, h1, ⟨⟨fs, a1, -⟩, -⟩, -, ⟨c1, c2, c3, c4, c5⟩, h5, h6⟩ := h
  intro b hb
  simp only [jtyl, List.mem_cons, List.not_mem_nil, or_false] at hb
  rcases hb with rfl | rfl | rfl | rfl | rfl | rfl
  · exact ⟨_, a1, jin_of rfl⟩
  · exact ⟨_, c1, jin_of rfl⟩
  · exact ⟨_, c2, jin_of rfl⟩
  · exact ⟨_, c3, jin_of rfl⟩
  · exact ⟨_, c4, jin_of rfl⟩
  · exact ⟨_, c5, jin_of rfl⟩
theorem jty.keep {E : List jKd} {V V' : jH} {t : Nat} {P : jad} {g : Int} (h : jty V t P g) (he : jeff E V V') (hn : ∀ k ∈ jTK, k ∉ E) : jty V' t P g :=
  h.same (fun b hb => by
    obtain ⟨e, h1, h2⟩ := h.mem b hb
    rw [h1]
    exact he.2 b e h1 (hn _ h2))
/-- two tallies lie apart -/
theorem jtyapart {V : jH} {t u : Nat} {P Q : jad} {g k : Int} (h : jty V t P g) (h2 : jty V u Q k) (hg : ¬ g = k) (hs : jsp P Q) : ∀ b ∈ jtyl u Q, b ∉ jtyl t P := by
  obtain ⟨gv, R, sd, cd, tg, sp, ln, TK, WC, SQ, RC, BC, ⟨e1, -⟩, ⟨⟨fs, a1, f1⟩, -⟩, -, ⟨c1, c2, c3, c4, c5⟩, -, -⟩ := h
  obtain ⟨gv', R', sd', cd', tg', sp', ln', TK', WC', SQ', RC', BC', ⟨e2, -⟩, ⟨⟨fs', b1, f2⟩, -⟩, -, ⟨d1, d2, d3, d4, d5⟩, -, -⟩ := h2
  obtain ⟨s1, s2, s3, s4, s5⟩ := hs
  have key : ∀ (a b : Nat) (e e2 : jE), V a = some e → V b = some e2 → jsh e ≠ jsh e2 → a ≠ b := fun a b e e2 q1 q2 q3 z => by
    subst z
    rw [q1] at q2
    cases q2
    exact q3 rfl
  have s0 : u ≠ t := fun z => by
    subst z
    rw [a1] at b1
    cases b1
    rw [f1] at f2
    cases f2
    exact hg (e1.symm.trans e2)
  intro b hb hq
  simp only [jtyl, List.mem_cons, List.not_mem_nil, or_false] at hb hq
  rcases hb with rfl | rfl | rfl | rfl | rfl | rfl <;> rcases hq with hq | hq | hq | hq | hq | hq
  · exact s0 hq
  · exact key _ _ _ _ b1 c1 (by simp [jsh]) hq
  · exact key _ _ _ _ b1 c2 (by simp [jsh]) hq
  · exact key _ _ _ _ b1 c3 (by simp [jsh]) hq
  · exact key _ _ _ _ b1 c4 (by simp [jsh]) hq
  · exact key _ _ _ _ b1 c5 (by simp [jsh]) hq
  · exact key _ _ _ _ d1 a1 (by simp [jsh]) hq
  · exact s1 hq.symm
  · exact key _ _ _ _ d1 c2 (by simp [jsh]) hq
  · exact key _ _ _ _ d1 c3 (by simp [jsh]) hq
  · exact key _ _ _ _ d1 c4 (by simp [jsh]) hq
  · exact key _ _ _ _ d1 c5 (by simp [jsh]) hq
  · exact key _ _ _ _ d2 a1 (by simp [jsh]) hq
  · exact key _ _ _ _ d2 c1 (by simp [jsh]) hq
  · exact s2 hq.symm
  · exact key _ _ _ _ d2 c3 (by simp [jsh]) hq
  · exact key _ _ _ _ d2 c4 (by simp [jsh]) hq
  · exact key _ _ _ _ d2 c5 (by simp [jsh]) hq
  · exact key _ _ _ _ d3 a1 (by simp [jsh]) hq
  · exact key _ _ _ _ d3 c1 (by simp [jsh]) hq
  · exact key _ _ _ _ d3 c2 (by simp [jsh]) hq
  · exact s3 hq.symm
  · exact key _ _ _ _ d3 c4 (by simp [jsh]) hq
  · exact key _ _ _ _ d3 c5 (by simp [jsh]) hq
  · exact key _ _ _ _ d4 a1 (by simp [jsh]) hq
  · exact key _ _ _ _ d4 c1 (by simp [jsh]) hq
  · exact key _ _ _ _ d4 c2 (by simp [jsh]) hq
  · exact key _ _ _ _ d4 c3 (by simp [jsh]) hq
  · exact s4 hq.symm
  · exact key _ _ _ _ d4 c5 (by simp [jsh]) hq
  · exact key _ _ _ _ d5 a1 (by simp [jsh]) hq
  · exact key _ _ _ _ d5 c1 (by simp [jsh]) hq
  · exact key _ _ _ _ d5 c2 (by simp [jsh]) hq
  · exact key _ _ _ _ d5 c3 (by simp [jsh]) hq
  · exact key _ _ _ _ d5 c4 (by simp [jsh]) hq
  · exact s5 hq.symm
/-- every tally that was made counts as it should -/
def jTL (V : jH) (x : Nat) : Prop := ∃ (fs : List Value) (tl : Nat) (f : Nat → Option Nat) (A : Nat → jad), V x = some (.inr (4, fs)) ∧ fs[5]? = some (.ref tl) ∧ V tl = some (.inl (5, 4, .inr (.inr (.inr (.inr f))))) ∧ (∀ j : Nat, j < 4 → f j = none ∨ ∃ t : Nat, f j = some t ∧ jty V t (A j) (j : Int)) ∧ ∀ i j : Nat, i < 4 → j < 4 → i ≠ j → f i ≠ none → f j ≠ none → jsp (A i) (A j)
theorem jTL.keep {E : List jKd} {V V' : jH} {x : Nat} (h : jTL V x) (he : jeff E V V') (hn : ∀ k ∈ ([.inl 5, .inr 2, .inl 2, .inl 8, .inl 1, .inl 37, .inl 38] : List jKd), k ∉ E) : jTL V' x := by
  obtain ⟨fs, tl, f, A, h1, h2, h3, h4, h5⟩ := h
  obtain ⟨fs2, g1, g2⟩ := he.1.keep h1
  refine ⟨fs2, tl, f, A, g1, g2 _ _ h2, he.2 _ _ h3 (hn _ (jin_of rfl)), fun j hj => ?_, h5⟩
  rcases h4 j hj with q | ⟨t, q, r⟩
  · exact Or.inl q
  · exact Or.inr ⟨t, q, r.keep he (fun k hk => hn k (by simp only [List.mem_cons, List.not_mem_nil, or_false] at hk ⊢; exact Or.inr hk))⟩
/-- one tally was counted further, the others are as they were -/
theorem jTL.upd {E : List jKd} {V V' : jH} {x : Nat} {fs : List Value} {tl t j : Nat} {f : Nat → Option Nat} {A : Nat → jad} (h1 : V x = some (.inr (4, fs))) (h2 : fs[5]? = some (.ref tl)) (h3 : V tl = some (.inl (5, 4, .inr (.inr (.inr (.inr f)))))) (h4 : ∀ j : Nat, j < 4 → f j = none ∨ ∃ t : Nat, f j = some t ∧ jty V t (A j) (j : Int)) (h5 : ∀ i j : Nat, i < 4 → j < 4 → i ≠ j → f i ≠ none → f j ≠ none → jsp (A i) (A j)) (he : jeff E V V') (hE : (.inl 5 : jKd) ∉ E) (hj : j < 4) (hf : f j = some t) (hty : jty V t (A j) (j : Int)) (hty2 : jty V' t (A j) (j : Int)) (hfr : ∀ b ∉ jtyl t (A j), ∀ e : jE, V b = some e → jsh e ∈ jTK → V' b = some e) : jTL V' x := by
  obtain ⟨fs2, g1, g2⟩ := he.1.keep h1
  refine ⟨fs2, tl, f, A, g1, g2 _ _ h2, he.2 _ _ h3 hE, fun i hi => ?_, h5⟩
  by_cases e : i = j
  · subst e
    exact Or.inr ⟨t, hf, hty2⟩
  · rcases h4 i hi with q | ⟨u, q, r⟩
    · exact Or.inl q
    · refine Or.inr ⟨u, q, r.same (fun b hb => ?_)⟩
      obtain ⟨e9, m1, m2⟩ := r.mem b hb
      rw [m1]
      exact hfr b (jtyapart hty r (fun z => e (by omega)) (h5 j i hj hi (fun z => e z.symm) (by rw [hf]; simp) (by rw [q]; simp)) b hb) e9 m1 m2
/-- a new tally -/
theorem jTL.fresh {V V' : jH} {x : Nat} {fs : List Value} {tl t j : Nat} {f f2 : Nat → Option Nat} {A : Nat → jad} {P : jad} (h1 : V x = some (.inr (4, fs))) (h2 : fs[5]? = some (.ref tl)) (h4 : ∀ j : Nat, j < 4 → f j = none ∨ ∃ t : Nat, f j = some t ∧ jty V t (A j) (j : Int)) (h5 : ∀ i j : Nat, i < 4 → j < 4 → i ≠ j → f i ≠ none → f j ≠ none → jsp (A i) (A j)) (hx : jext V V') (h3 : V' tl = some (.inl (5, 4, .inr (.inr (.inr (.inr f2)))))) (hj : j < 4) (hf : f j = none) (hf2 : f2 j = some t) (hfo : ∀ i, i ≠ j → f2 i = f i) (hty2 : jty V' t P (j : Int)) (hnew : ∀ b ∈ jtyl t P, V b = none) (hfr : ∀ (b : Nat) (e : jE), V b = some e → jsh e ∈ jTK → V' b = some e) : jTL V' x := by
  obtain ⟨fs2, g1, g2⟩ := hx.keep h1
  refine ⟨fs2, tl, f2, fun i => if i = j then P else A i, g1, g2 _ _ h2, h3, fun i hi => ?_, fun a b ha hb hab qa qb => ?_⟩
  · by_cases e : i = j
    · subst e
      exact Or.inr ⟨t, hf2, by dsimp only; rw [if_pos rfl]; exact hty2⟩
    · dsimp only
      rw [hfo i e, if_neg e]
      rcases h4 i hi with q | ⟨u, q, r⟩
      · exact Or.inl q
      · refine Or.inr ⟨u, q, r.same (fun b hb => ?_)⟩
        obtain ⟨e9, m1, m2⟩ := r.mem b hb
        rw [m1]
        exact hfr b e9 m1 m2
  · have key : ∀ i : Nat, i < 4 → i ≠ j → f2 i ≠ none → jsp (A i) P := fun i hi e q => by
      rw [hfo i e] at q
      rcases h4 i hi with z | ⟨u, z, r⟩
      · exact absurd z q
      · have m : ∀ b ∈ jtyl u (A i), b ∉ jtyl t P := fun b hb hq => by
          obtain ⟨e9, m1, m2⟩ := r.mem b hb
          rw [hnew b hq] at m1
          cases m1
        refine ⟨fun z => m (A i).1 (by simp [jtyl]) (by rw [z]; simp [jtyl]), fun z => m (A i).2.1 (by simp [jtyl]) (by rw [z]; simp [jtyl]), fun z => m (A i).2.2.1 (by simp [jtyl]) (by rw [z]; simp [jtyl]), fun z => m (A i).2.2.2.1 (by simp [jtyl]) (by rw [z]; simp [jtyl]), fun z => m (A i).2.2.2.2 (by simp [jtyl]) (by rw [z]; simp [jtyl])⟩
    dsimp only
    by_cases ea : a = j
    · subst ea
      rw [if_pos rfl, if_neg (fun z => hab z.symm)]
      exact (key b hb (fun z => hab z.symm) qb).symm
    · by_cases eb : b = j
      · subst eb
        rw [if_neg hab, if_pos rfl]
        exact key a ha hab qa
      · rw [if_neg ea, if_neg eb]
        exact h5 a b ha hb hab (by rw [← hfo a ea]; exact qa) (by rw [← hfo b eb]; exact qb)
theorem jTL.init {V : jH} {x tl : Nat} {fs : List Value} (h1 : V x = some (.inr (4, fs))) (h2 : fs[5]? = some (.ref tl)) (h3 : V tl = some (.inl (5, 4, .inr (.inr (.inr (.inr (fun _ => none))))))) : jTL V x :=
  ⟨fs, tl, _, fun _ => (0, 0, 0, 0, 0), h1, h2, h3, fun _ _ => Or.inl rfl, fun _ _ _ _ _ q => absurd rfl q⟩
theorem jtk.zero {g : Int} : jtk g (fun _ => 0) [] := fun _ _ => ⟨fun _ => List.not_mem_nil, fun _ => rfl⟩
theorem jtal.init {g : Int} {WC RC BC : Nat → Int32} {SQ : Nat → Int64} (h0 : WC 0 = 1) (h1 : ∀ k : Nat, 1 ≤ k → k ≤ 20 → WC k = 0) (s : ∀ k, SQ k = 0) (r : ∀ k, RC k = 0) (b : ∀ k, BC k = 0) : jtal g WC SQ RC BC 0 0 0 :=
  ⟨⟨Int.le_refl _, by have := jRg_cases g; omega⟩, rfl, by decide, ⟨h0, s 0⟩, fun k k1 k2 => by omega, Or.inl ⟨rfl, fun k k1 k2 => ⟨h1 k (by omega) k2, s k, r k, b k⟩⟩⟩
/-- the memory of the reference -/
def jRM (V : jH) (m : Nat) : Prop := ∃ (kn co sq rg bg se : Nat) (KN CO : Nat → Int32) (SQ : Nat → Int64) (RG BG SE : Nat → Int32), (jfR V m 5 11 kn ∧ jfR V m 5 12 co ∧ jfR V m 5 13 sq ∧ jfR V m 5 14 rg ∧ jfR V m 5 15 bg ∧ jfR V m 5 16 se) ∧ (V kn = some (.inl (40, 84, .inl KN)) ∧ V co = some (.inl (23, 84, .inl CO)) ∧ V sq = some (.inl (46, 84, .inr (.inl SQ))) ∧ V rg = some (.inl (24, 84, .inl RG)) ∧ V bg = some (.inl (25, 84, .inl BG)) ∧ V se = some (.inl (41, 79507, .inl SE))) ∧ jsn SE [] ∧ ∀ g n : Nat, g ≤ 3 → n ≤ 20 → jmo (g : Int) n KN CO SQ RG BG (21 * g + n)
theorem jRM.keep {E : List jKd} {V V' : jH} {m : Nat} (h : jRM V m) (he : jeff E V V') (hn : ∀ k ∈ ([.inl 40, .inl 23, .inl 46, .inl 24, .inl 25, .inl 41] : List jKd), k ∉ E) : jRM V' m := by
  obtain ⟨kn, co, sq, rg, bg, se, KN, CO, SQ, RG, BG, SE, ⟨a1, a2, a3, a4, a5, a6⟩, ⟨c1, c2, c3, c4, c5, c6⟩, h3, h4⟩ := h
  exact ⟨kn, co, sq, rg, bg, se, KN, CO, SQ, RG, BG, SE, ⟨a1.mono he.1, a2.mono he.1, a3.mono he.1, a4.mono he.1, a5.mono he.1, a6.mono he.1⟩, ⟨he.2 _ _ c1 (hn _ (jin_of rfl)), he.2 _ _ c2 (hn _ (jin_of rfl)), he.2 _ _ c3 (hn _ (jin_of rfl)), he.2 _ _ c4 (hn _ (jin_of rfl)), he.2 _ _ c5 (hn _ (jin_of rfl)), he.2 _ _ c6 (hn _ (jin_of rfl))⟩, h3, h4⟩
theorem jmo.other {g : Int} {n i : Nat} {KN CO RG BG KN2 CO2 RG2 BG2 : Nat → Int32} {SQ SQ2 : Nat → Int64} {k : Nat} (h : jmo g n KN CO SQ RG BG i) (hk : ∀ j : Nat, j ≠ k → KN2 j = KN j) (ho : jot CO2 SQ2 RG2 BG2 CO SQ RG BG k) (hi : i ≠ k) : jmo g n KN2 CO2 SQ2 RG2 BG2 i := by
  obtain ⟨o1, o2, o3, o4⟩ := ho i hi
  unfold jmo jac
  rw [hk i hi, o1, o2, o3, o4]
  exact h
