/-! the room that is still owed: 9 for a ground without a tally, else its places of -1 -/
def jw9 (V : jH) (f : Nat → Option Nat) (j m : Nat) : Prop := (f j = none ∧ m = 9) ∨ ∃ (t rc : Nat) (ts : List Value) (h : Nat → Int32), f j = some t ∧ V t = some (.inr (2, ts)) ∧ ts[9]? = some (.ref rc) ∧ V rc = some (.inl (9, 7, .inl h)) ∧ m + jcn (-1) h 7 = 7
def jphi (V : jH) (a G : Nat) : Prop := ∃ (fs : List Value) (tl : Nat) (f : Nat → Option Nat) (g : Nat → Nat), V a = some (.inr (4, fs)) ∧ fs[5]? = some (.ref tl) ∧ V tl = some (.inl (5, 4, .inr (.inr (.inr (.inr f))))) ∧ (∀ j, j < 4 → jw9 V f j (g j)) ∧ g 0 + g 1 + g 2 + g 3 ≤ G
theorem jw_all {P : Nat → Nat → Prop} {g : Nat → Nat} (h : ∀ j, j < 4 → ∃ m, m ≤ g j ∧ P j m) : ∃ g' : Nat → Nat, (∀ j, j < 4 → P j (g' j)) ∧ ∀ j, j < 4 → g' j ≤ g j := by
  refine ⟨fun j => if hj : j < 4 then Classical.choose (h j hj) else 0, fun j hj => ?_, fun j hj => ?_⟩
  · have h1 := (Classical.choose_spec (h j hj)).2
    dsimp only
    rw [dif_pos hj]
    exact h1
  · have h1 := (Classical.choose_spec (h j hj)).1
    dsimp only
    rw [dif_pos hj]
    exact h1
theorem jw9.step {V V' : jH} {f : Nat → Option Nat} {j m : Nat} (hx : jext V V') (h9 : jle9 V V') (h : jw9 V f j m) : ∃ m' : Nat, m' ≤ m ∧ jw9 V' f j m' := by
  rcases h with ⟨h1, h2⟩ | ⟨t, rc, ts, h, hf, ht, hr, hrc, hm⟩
  · exact ⟨m, Nat.le_refl _, Or.inl ⟨h1, h2⟩⟩
  · obtain ⟨ts2, ht2, hk⟩ := hx.keep ht
    obtain ⟨h2, hrc2, hl⟩ := h9 rc h hrc
    have h3 := jcn_le (c := -1) (F := h2) 7
    exact ⟨7 - jcn (-1) h2 7, by omega, Or.inr ⟨t, rc, ts2, h2, hf, ht2, hk 9 rc hr, hrc2, by omega⟩⟩
theorem jw9.of {V : jH} {f : Nat → Option Nat} {j t : Nat} (hW : WT V) (hf : f j = some t) (ht : jis V (.inr 2) t) : ∃ m : Nat, m ≤ 7 ∧ jw9 V f j m := by
  obtain ⟨ts, hO, hK⟩ := WT_obj hW id ht
  obtain ⟨w, hF, rc, rfl, hrc⟩ := hK.2 9 (.inr (some (.inl 9))) rfl
  obtain ⟨n, h, hA, -, hM, -⟩ := WT_arrI (r := (-2147483648, 2147483647)) hW id rfl hrc
  obtain rfl := hM 7 rfl
  have h3 := jcn_le (c := -1) (F := h) 7
  exact ⟨7 - jcn (-1) h 7, by omega, Or.inr ⟨t, rc, ts, h, hf, hO, hF, hA, by omega⟩⟩
theorem jphi.init {V : jH} {a : Nat} (hW : WT V) (h : jis V (.inr 4) a) : jphi V a 36 := by
  obtain ⟨fs, hO, hK⟩ := WT_obj hW id h
  obtain ⟨w, hF, tl, rfl, htl⟩ := hK.2 5 (.inr (some (.inl 5))) rfl
  obtain ⟨n, f, hA, -, hM, hv⟩ := WT_arrR hW id rfl htl
  obtain rfl := hM 4 rfl
  obtain ⟨g, h1, h2⟩ := jw_all (P := fun j m => jw9 V f j m) (g := fun _ => 9) (fun j hj => by
    cases hf : f j with
    | none => exact ⟨9, Nat.le_refl _, Or.inl ⟨hf, rfl⟩⟩
    | some t =>
      obtain ⟨m, q1, q2⟩ := jw9.of hW hf (hv j t hj hf)
      exact ⟨m, by omega, q2⟩)
  have e0 := h2 0 (by omega)
  have e1 := h2 1 (by omega)
  have e2 := h2 2 (by omega)
  have e3 := h2 3 (by omega)
  exact ⟨fs, tl, f, g, hO, hF, hA, h1, by omega⟩
theorem jphi.core {V V' : jH} {a G : Nat} {fs : List Value} {tl : Nat} {f : Nat → Option Nat} {g : Nat → Nat} (hO : V a = some (.inr (4, fs))) (hF : fs[5]? = some (.ref tl)) (hA : V' tl = some (.inl (5, 4, .inr (.inr (.inr (.inr f)))))) (hg : ∀ j, j < 4 → jw9 V f j (g j)) (hs : g 0 + g 1 + g 2 + g 3 ≤ G) (hx : jext V V') (h9 : jle9 V V') : jphi V' a G := by
  obtain ⟨fs2, hO2, hk⟩ := hx.keep hO
  obtain ⟨g2, h1, h2⟩ := jw_all (P := fun j m => jw9 V' f j m) (g := g) (fun j hj => (hg j hj).step hx h9)
  have e0 := h2 0 (by omega)
  have e1 := h2 1 (by omega)
  have e2 := h2 2 (by omega)
  have e3 := h2 3 (by omega)
  exact ⟨fs2, tl, f, g2, hO2, hk 5 tl hF, hA, h1, by omega⟩
theorem jphi.keep {E : List jKd} {V V' : jH} {a G : Nat} (h : jphi V a G) (hx : jeff E V V') (h5 : (.inl 5 : jKd) ∉ E) (h9 : (.inl 9 : jKd) ∉ E) : jphi V' a G := by
  obtain ⟨fs, tl, f, g, hO, hF, hA, hg, hs⟩ := h
  exact jphi.core hO hF (hx.2 _ _ hA h5) hg hs hx.1 (jle9.of hx h9)
theorem jphi.alloc {V V' : jH} {a G j t rc : Nat} {fs ts : List Value} {tl : Nat} {f : Nat → Option Nat} {g : Nat → Nat} {h H : Nat → Int32} (hO : V a = some (.inr (4, fs))) (hF : fs[5]? = some (.ref tl)) (hA : V' tl = some (.inl (5, 4, .inr (.inr (.inr (.inr f)))))) (hg : ∀ j, j < 4 → jw9 V f j (g j)) (hs : g 0 + g 1 + g 2 + g 3 ≤ G) (hx : jext V V') (h9 : jle9 V V') (hj : j < 4) (hf : f j = some t) (ht : V t = some (.inr (2, ts))) (hr : ts[9]? = some (.ref rc)) (hrc : V rc = some (.inl (9, 7, .inl h))) (hH : V' rc = some (.inl (9, 7, .inl H))) (hc : jcn (-1) H 7 = jcn (-1) h 7 + 1) : 1 ≤ G ∧ jphi V' a (G - 1) := by
  obtain ⟨fs2, hO2, hk⟩ := hx.keep hO
  obtain ⟨ts2, ht2, hk2⟩ := hx.keep ht
  have hl := jcn_le (c := -1) (F := H) 7
  have hgj : g j + jcn (-1) h 7 = 7 := by
    rcases hg j hj with ⟨h1, h2⟩ | ⟨t2, rc2, ts3, h3, e1, e2, e3, e4, e5⟩
    · rw [hf] at h1; cases h1
    · have q1 := Option.some.inj (hf.symm.trans e1)
      subst q1
      cases ht.symm.trans e2
      cases hr.symm.trans e3
      cases hrc.symm.trans e4
      exact e5
  obtain ⟨g2, h1, h2⟩ := jw_all (P := fun i m => jw9 V' f i m) (g := fun i => if i = j then g j - 1 else g i) (fun i hi => by
    by_cases hij : i = j
    · subst hij
      refine ⟨7 - jcn (-1) H 7, ?_, Or.inr ⟨t, rc, ts2, H, hf, ht2, hk2 9 rc hr, hH, by omega⟩⟩
      rw [if_pos rfl]
      omega
    · rw [if_neg hij]
      exact (hg i hi).step hx h9)
  have e0 := h2 0 (by omega)
  have e1 := h2 1 (by omega)
  have e2 := h2 2 (by omega)
  have e3 := h2 3 (by omega)
  refine (fun q : g2 0 + g2 1 + g2 2 + g2 3 + 1 ≤ G => ⟨by omega, fs2, tl, f, g2, hO2, hk 5 tl hF, hA, h1, by omega⟩) ?_
  rcases (show j = 0 ∨ j = 1 ∨ j = 2 ∨ j = 3 by omega) with rfl | rfl | rfl | rfl
  · rw [if_pos rfl] at e0; rw [if_neg (by omega)] at e1 e2 e3; omega
  · rw [if_pos rfl] at e1; rw [if_neg (by omega)] at e0 e2 e3; omega
  · rw [if_pos rfl] at e2; rw [if_neg (by omega)] at e0 e1 e3; omega
  · rw [if_pos rfl] at e3; rw [if_neg (by omega)] at e0 e1 e2; omega
theorem jphi.fresh {V V' : jH} {a G j : Nat} {fs : List Value} {tl : Nat} {f f2 : Nat → Option Nat} {g : Nat → Nat} (hO : V a = some (.inr (4, fs))) (hF : fs[5]? = some (.ref tl)) (hA : V' tl = some (.inl (5, 4, .inr (.inr (.inr (.inr f2)))))) (hg : ∀ j, j < 4 → jw9 V f j (g j)) (hs : g 0 + g 1 + g 2 + g 3 ≤ G) (hx : jext V V') (h9 : jle9 V V') (hW : WT V') (hj : j < 4) (hf : f j = none) (h2 : ∀ i, i ≠ j → f2 i = f i) (h3 : ∃ t, f2 j = some t) : 2 ≤ G ∧ jphi V' a (G - 2) := by
  obtain ⟨fs2, hO2, hk⟩ := hx.keep hO
  obtain ⟨t, ht⟩ := h3
  obtain ⟨n, f3, hA3, -, -, hv⟩ := WT_arrR hW id rfl (show jis V' (.inl 5) tl from ⟨_, hA, rfl⟩)
  cases hA.symm.trans hA3
  have hgj : g j = 9 := by
    rcases hg j hj with ⟨h1, h2⟩ | ⟨t2, rc2, ts3, h3, e1, -⟩
    · exact h2
    · rw [hf] at e1; cases e1
  obtain ⟨g2, h1, h4⟩ := jw_all (P := fun i m => jw9 V' f2 i m) (g := fun i => if i = j then 7 else g i) (fun i hi => by
    by_cases hij : i = j
    · subst hij
      rw [if_pos rfl]
      exact jw9.of hW ht (hv i t hi ht)
    · rw [if_neg hij]
      obtain ⟨m, q1, q2⟩ := (hg i hi).step hx h9
      refine ⟨m, q1, ?_⟩
      rcases q2 with ⟨w1, w2⟩ | ⟨t5, rc5, ts5, h5, w1, w2⟩
      · exact Or.inl ⟨(h2 i hij).trans w1, w2⟩
      · exact Or.inr ⟨t5, rc5, ts5, h5, (h2 i hij).trans w1, w2⟩)
  have e0 := h4 0 (by omega)
  have e1 := h4 1 (by omega)
  have e2 := h4 2 (by omega)
  have e3 := h4 3 (by omega)
  refine (fun q : g2 0 + g2 1 + g2 2 + g2 3 + 2 ≤ G => ⟨by omega, fs2, tl, f2, g2, hO2, hk 5 tl hF, hA, h1, by omega⟩) ?_
  rcases (show j = 0 ∨ j = 1 ∨ j = 2 ∨ j = 3 by omega) with rfl | rfl | rfl | rfl
  · rw [if_pos rfl] at e0; rw [if_neg (by omega)] at e1 e2 e3; omega
  · rw [if_pos rfl] at e1; rw [if_neg (by omega)] at e0 e2 e3; omega
  · rw [if_pos rfl] at e2; rw [if_neg (by omega)] at e0 e1 e3; omega
  · rw [if_pos rfl] at e3; rw [if_neg (by omega)] at e0 e1 e2; omega
/-! what class and reference hold alike: how many walks were made -/
def jrl (V : jH) (x m : Nat) : Prop := ∃ k : Int32, jfI V x 4 1 k ∧ jfI V m 5 0 k
theorem jrl.own {E : List jKd} {V V' : jH} {x m : Nat} (h : jrl V x m) (he : jeff E V V') (h4 : (.inr 4 : jKd) ∉ E) (h5 : (.inr 5 : jKd) ∉ E) : jrl V' x m := by
  obtain ⟨k, h1, h2⟩ := h
  exact ⟨k, h1.keep he h4, h2.keep he h5⟩
theorem jrl.ref {E : List jKd} {ks : List Nat} {V V' : jH} {x m : Nat} (h : jrl V x m) (he : jeff E V V') (h4 : (.inr 4 : jKd) ∉ E) (hk : jkx ks V V') (hm : 0 ∈ ks) : jrl V' x m := by
  obtain ⟨k, h1, h2⟩ := h
  exact ⟨k, h1.keep he h4, h2.kp hk hm⟩
theorem jnI_eq {x : Int32} {j k : Nat} (h1 : x = nI k) (h2 : x = nI j) (hk : k < 4) (hj : j < 4) : k = j := by
  have h3 : x.toNatClampNeg = k := by rw [h1]; exact nI_clamp (by omega)
  have h4 : x.toNatClampNeg = j := by rw [h2]; exact nI_clamp (by omega)
  omega
theorem jg_le {g : Nat → Nat} {G j : Nat} (h : g 0 + g 1 + g 2 + g 3 ≤ G) (hj : j < 4) : g j ≤ G := by
  rcases (show j = 0 ∨ j = 1 ∨ j = 2 ∨ j = 3 by omega) with rfl | rfl | rfl | rfl <;> omega
theorem jg_none {V : jH} {f : Nat → Option Nat} {g : Nat → Nat} {G j : Nat} (hg : ∀ j, j < 4 → jw9 V f j (g j)) (h : g 0 + g 1 + g 2 + g 3 ≤ G) (hj : j < 4) (hf : f j = none) : 9 ≤ G := by
  have h1 := jg_le h hj
  rcases hg j hj with ⟨-, q2⟩ | ⟨t2, rc2, ts3, h3, e1, -⟩
  · omega
  · rw [hf] at e1; cases e1
theorem jg_some {V : jH} {f : Nat → Option Nat} {g : Nat → Nat} {G j t rc x : Nat} {ts : List Value} {h : Nat → Int32} (hg : ∀ j, j < 4 → jw9 V f j (g j)) (hs : g 0 + g 1 + g 2 + g 3 ≤ G) (hj : j < 4) (hf : f j = some t) (ht : V t = some (.inr (2, ts))) (hr : ts[9]? = some (.ref rc)) (hrc : V rc = some (.inl (9, 7, .inl h))) (hx : x < 7) (hm : (h x).toInt = -1) : 1 ≤ G := by
  have h1 := jg_le hs hj
  have h2 := jcn_lt hm 7 hx
  rcases hg j hj with ⟨q1, q2⟩ | ⟨t2, rc2, ts3, h3, e1, e2, e3, e4, e5⟩
  · omega
  · have q1 := Option.some.inj (hf.symm.trans e1)
    subst q1
    cases ht.symm.trans e2
    cases hr.symm.trans e3
    cases hrc.symm.trans e4
    omega
abbrev mL_law : jM := (yL_law, cL_law, 4, some .boolean)
