/-! the room that is still owed: 9 for a ground without a tally, else its places of -1 -/
def jw9 (V : jH) (f : Nat → Option Nat) (j m : Nat) : Prop := (f j = none ∧ m = 9) ∨ ∃ (t rc : Nat) (ts : List Value) (h : Nat → Int32), f j = some t ∧ V t = some (.inr (2, ts)) ∧ ts[9]? = some (.ref rc) ∧ V rc = some (.inl (9, 7, .inl h)) ∧ m + jcn (-1) h 7 = 7
def jphi (V : jH) (a G : Nat) : Prop := ∃ (fs : List Value) (tl : Nat) (f : Nat → Option Nat) (g : Nat → Nat), V a = some (.inr (4, fs)) ∧ fs[5]? = some (.ref tl) ∧ V tl = some (.inl (5, 4, .inr (.inr (.inr (.inr f))))) ∧ (∀ j, j < 4 → jw9 V f j (g j)) ∧ g 0 + g 1 + g 2 + g 3 ≤ G
theorem jw_all {P : Nat → Nat → Prop} {g : Nat → Nat} (h : ∀ j, j < 4 → ∃ m, m ≤ g j ∧ P j m) : ∃ g' : Nat → Nat, (∀ j, j < 4 → P j (g' j)) ∧ ∀ j, j < 4 → g' j ≤ g j := by
  refine ⟨fun j => if hj : j < 4 then Classical.choose (h j hj) else 0, fun j hj => ?_, fun j hj => ?_⟩
  · have h1 := (Classical.choose_spec (h j hj)).2
    dsimp only
    rw [dif_pos hj]
    exact h1
  · have h1 := (Classical.choose_spec (h j hj)).1
    dsimp only
    rw [dif_pos hj]
    exact h1
theorem jw9.step {V V' : jH} {f : Nat → Option Nat} {j m : Nat} (hx : jext V V') (h9 : jle9 V V') (h : jw9 V f j m) : ∃ m' : Nat, m' ≤ m ∧ jw9 V' f j m' := by
  rcases h with ⟨h1, h2⟩ | ⟨t, rc, ts, h, hf, ht, hr, hrc, hm⟩
  · exact ⟨m, Nat.le_refl _, Or.inl ⟨h1, h2⟩⟩
  · obtain ⟨ts2, ht2, hk⟩ := hx.keep ht
    obtain ⟨h2, hrc2, hl⟩ := h9 rc h hrc
    have h3 := jcn_le (c := -1) (F := h2) 7
    exact ⟨7 - jcn (-1) h2 7, by omega, Or.inr ⟨t, rc, ts2, h2, hf, ht2, hk 9 rc hr, hrc2, by omega⟩⟩
theorem jw9.of {V : jH} {f : Nat → Option Nat} {j t : Nat} (hW : WT V) (hf : f j = some t) (ht : jis V (.inr 2) t) : ∃ m : Nat, m ≤ 7 ∧ jw9 V f j m := by
  obtain ⟨ts, hO, hK⟩ := WT_obj hW id ht
  obtain ⟨w, hF, rc, rfl, hrc⟩ := hK.2 9 (.inr (some (.inl 9))) rfl
  obtain ⟨n, h, hA, -, hM, -⟩ := WT_arrI (r := (-2147483648, 2147483647)) hW id rfl hrc
  obtain rfl := hM 7 rfl
  have h3 := jcn_le (c := -1) (F := h) 7
  exact ⟨7 - jcn (-1) h 7, by omega, Or.inr ⟨t, rc, ts, h, hf, hO, hF, hA, by omega⟩⟩
theorem jphi.init {V : jH} {a : Nat} (hW : WT V) (h : jis V (.inr 4) a) : jphi V a 36 := by
  obtain ⟨fs, hO, hK⟩ := WT_obj hW id h
  obtain ⟨w, hF, tl, rfl, htl⟩ := hK.2 5 (.inr (some (.inl 5))) rfl
  obtain ⟨n, f, hA, -, hM, hv⟩ := WT_arrR hW id rfl htl
  obtain rfl := hM 4 rfl
  obtain ⟨g, h1, h2⟩ := jw_all (P := fun j m => jw9 V f j m) (g := fun _ => 9) (fun j hj => by
    cases hf : f j with
    | none => exact ⟨9, Nat.le_refl _, Or.inl ⟨hf, rfl⟩⟩
    | some t =>
      obtain ⟨m, q1, q2⟩ := jw9.of hW hf (hv j t hj hf)
      exact ⟨m, by omega, q2⟩)
  have e0 := h2 0 (by omega)
  have e1 := h2 1 (by omega)
  have e2 := h2 2 (by omega)
  have e3 := h2 3 (by omega)
  exact ⟨fs, tl, f, g, hO, hF, hA, h1, by omega⟩
theorem jphi.core {V V' : jH} {a G : Nat} {fs : List Value} {tl : Nat} {f : Nat → Option Nat} {g : Nat → Nat} (hO : V a = some (.inr (4, fs))) (hF : fs[5]? = some (.ref tl)) (hA : V' tl = some (.inl (5, 4, .inr (.inr (.inr (.inr f)))))) (hg : ∀ j, j < 4 → jw9 V f j (g j)) (hs : g 0 + g 1 + g 2 + g 3 ≤ G) (hx : jext V V') (h9 : jle9 V V') : jphi V' a G := by
  obtain ⟨fs2, hO2, hk⟩ := hx.keep hO
  obtain ⟨g2, h1, h2⟩ := jw_all (P := fun j m => jw9 V' f j m) (g := g) (fun j hj => (hg j hj).step hx h9)
  have e0 := h2 0 (by omega)
  have e1 := h2 1 (by omega)
  have e2 := h2 2 (by omega)
  have e3 := h2 3 (by omega)
  exact ⟨fs2, tl, f, g2, hO2, hk 5 tl hF, hA, h1, by omega⟩
theorem jphi.keep {E : List jKd} {V V' : jH} {a G : Nat} (h : jphi V a G) (hx : jeff E V V') (h5 : (.inl 5 : jKd) ∉ E) (h9 : (.inl 9 : jKd) ∉ E) : jphi V' a G := by
  obtain ⟨fs, tl, f, g, hO, hF, hA, hg, hs⟩ := h
  exact jphi.core hO hF (hx.2 _ _ hA h5) hg hs hx.1 (jle9.of hx h9)
theorem jphi.alloc {V V' : jH} {a G j t rc : Nat} {fs ts : List Value} {tl : Nat} {f : Nat → Option Nat} {g : Nat → Nat} {h H : Nat → Int32} (hO : V a = some (.inr (4, fs))) (hF : fs[5]? = some (.ref tl)) (hA : V' tl = some (.inl (5, 4, .inr (.inr (.inr (.inr f)))))) (hg : ∀ j, j < 4 → jw9 V f j (g j)) (hs : g 0 + g 1 + g 2 + g 3 ≤ G) (hx : jext V V') (h9 : jle9 V V') (hj : j < 4) (hf : f j = some t) (ht : V t = some (.inr (2, ts))) (hr : ts[9]? = some (.ref rc)) (hrc : V rc = some (.inl (9, 7, .inl h))) (hH : V' rc = some (.inl (9, 7, .inl H))) (hc : jcn (-1) H 7 = jcn (-1) h 7 + 1) : 1 ≤ G ∧ jphi V' a (G - 1) := by
  obtain ⟨fs2, hO2, hk⟩ := hx.keep hO
  obtain ⟨ts2, ht2, hk2⟩ := hx.keep ht
  have hl := jcn_le (c := -1) (F := H) 7
  have hgj : g j + jcn (-1) h 7 = 7 := by
    rcases hg j hj with ⟨h1, h2⟩ | ⟨t2, rc2, ts3, h3, e1, e2, e3, e4, e5⟩
    · rw [hf] at h1; cases h1
    · have q1 := Option.some.inj (hf.symm.trans e1)
      subst q1
      cases ht.symm.trans e2
      cases hr.symm.trans e3
      cases hrc.symm.trans e4
      exact e5
  obtain ⟨g2, h1, h2⟩ := jw_all (P := fun i m => jw9 V' f i m) (g := fun i => if i = j then g j - 1 else g i) (fun i hi => by
    by_cases hij : i = j
    · subst hij
      refine ⟨7 - jcn (-1) H 7, ?_, Or.inr ⟨t, rc, ts2, H, hf, ht2, hk2 9 rc hr, hH, by omega⟩⟩
      rw [if_pos rfl]
      omega
    · rw [if_neg hij]
      exact (hg i hi).step hx h9)
  have e0 := h2 0 (by omega)
  have e1 := h2 1 (by omega)
  have e2 := h2 2 (by omega)
  have e3 := h2 3 (by omega)
  refine (fun q : g2 0 + g2 1 + g2 2 + g2 3 + 1 ≤ G => ⟨by omega, fs2, tl, f, g2, hO2, hk 5 tl hF, hA, h1, by omega⟩) ?_
  rcases (show j = 0 ∨ j = 1 ∨ j = 2 ∨ j = 3 by omega) with rfl | rfl | rfl | rfl
  · rw [if_pos rfl] at e0; rw [if_neg (by omega)] at e1 e2 e3; omega
  · rw [if_pos rfl] at e1; rw [if_neg (by omega)] at e0 e2 e3; omega
  · rw [if_pos rfl] at e2; rw [if_neg (by omega)] at e0 e1 e3; omega
  · rw [if_pos rfl] at e3; rw [if_neg (by omega)] at e0 e1 e2; omega
theorem jphi.fresh {V V' : jH} {a G j : Nat} {fs : List Value} {tl : Nat} {f f2 : Nat → Option Nat} {g : Nat → Nat} (hO : V a = some (.inr (4, fs))) (hF : fs[5]? = some (.ref tl)) (hA : V' tl = some (.inl (5, 4, .inr (.inr (.inr (.inr f2)))))) (hg : ∀ j, j < 4 → jw9 V f j (g j)) (hs : g 0 + g 1 + g 2 + g 3 ≤ G) (hx : jext V V') (h9 : jle9 V V') (hW : WT V') (hj : j < 4) (hf : f j = none) (h2 : ∀ i, i ≠ j → f2 i = f i) (h3 : ∃ t, f2 j = some t) : 2 ≤ G ∧ jphi V' a (G - 2) := by
  obtain ⟨fs2, hO2, hk⟩ := hx.keep hO
  obtain ⟨t, ht⟩ := h3
  obtain ⟨n, f3, hA3, -, -, hv⟩ := WT_arrR hW id rfl (show jis V' (.inl 5) tl from ⟨_, hA, rfl⟩)
  cases hA.symm.trans hA3
  have hgj : g j = 9 := by
    rcases hg j hj with ⟨h1, h2⟩ | ⟨t2, rc2, ts3, h3, e1, -⟩
    · exact h2
    · rw [hf] at e1; cases e1
  obtain ⟨g2, h1, h4⟩ := jw_all (P := fun i m => jw9 V' f2 i m) (g := fun i => if i = j then 7 else g i) (fun i hi => by
    by_cases hij : i = j
    · subst hij
      rw [if_pos rfl]
      exact jw9.of hW ht (hv i t hi ht)
    · rw [if_neg hij]
      obtain ⟨m, q1, q2⟩ := (hg i hi).step hx h9
      refine ⟨m, q1, ?_⟩
      rcases q2 with ⟨w1, w2⟩ | ⟨t5, rc5, ts5, h5, w1, w2⟩
      · exact Or.inl ⟨(h2 i hij).trans w1, w2⟩
      · exact Or.inr ⟨t5, rc5, ts5, h5, (h2 i hij).trans w1, w2⟩)
  have e0 := h4 0 (by omega)
  have e1 := h4 1 (by omega)
  have e2 := h4 2 (by omega)
  have e3 := h4 3 (by omega)
  refine (fun q : g2 0 + g2 1 + g2 2 + g2 3 + 2 ≤ G => ⟨by omega, fs2, tl, f2, g2, hO2, hk 5 tl hF, hA, h1, by omega⟩) ?_
  rcases (show j = 0 ∨ j = 1 ∨ j = 2 ∨ j = 3 by omega) with rfl | rfl | rfl | rfl
  · rw [if_pos rfl] at e0; rw [if_neg (by omega)] at e1 e2 e3; omega
  · rw [if_pos rfl] at e1; rw [if_neg (by omega)] at e0 e2 e3; omega
  · rw [if_pos rfl] at e2; rw [if_neg (by omega)] at e0 e1 e3; omega
  · rw [if_pos rfl] at e3; rw [if_neg (by omega)] at e0 e1 e2; omega
/-! what class and reference hold alike: the board -/
theorem jkc.sub {c : Nat} {ks ks2 : List Nat} {V V' : jH} (h : jkc c ks V V') (hs : ∀ k ∈ ks2, k ∈ ks) : jkc c ks2 V V' := fun a fs q => by
  obtain ⟨fs', h1, h2⟩ := h a fs q
  exact ⟨fs', h1, fun k hk => h2 k (hs k hk)⟩
def jpl (V : jH) (x m : Nat) : Prop := ∃ (xs ms : List Value) (pl rh : Nat) (w h : Int32) (op : Int64) (H : Nat → Int32), V x = some (.inr (4, xs)) ∧ xs[6]? = some (.ref pl) ∧ V m = some (.inr (5, ms)) ∧ ms[25]? = some (.ref rh) ∧ jfI V pl 0 1 w ∧ jfI V pl 0 2 h ∧ jfL V pl 0 3 op ∧ jfI V m 5 23 w ∧ jfI V m 5 24 h ∧ V rh = some (.inl (43, 36, .inl H)) ∧ (2 ≤ w.toInt ∧ w.toInt ≤ 6 ∧ 2 ≤ h.toInt ∧ h.toInt ≤ 6) ∧ ∀ n : Nat, jbt op n = true ↔ ∃ a b : Nat, ((a : Int) < w.toInt ∧ (b : Int) < h.toInt) ∧ n = 9 + a + 8 * b ∧ (H (a + w.toInt.toNat * b)).toInt = 0
theorem jpl.core {V V' : jH} {x m : Nat} (h : jpl V x m) (hx : jext V V') (k0 : jkc 0 [1, 2, 3] V V') (k5 : jkc 5 [23, 24] V V') (h43 : ∀ (a : Nat) (f : Nat → Int32), V a = some (.inl (43, 36, .inl f)) → V' a = some (.inl (43, 36, .inl f))) : jpl V' x m := by
  obtain ⟨xs, ms, pl, rh, w, h, op, H, q1, q2, q3, q4, q5, q6, q7, q8, q9, q10, q11, q12⟩ := h
  obtain ⟨xs2, p1, p2⟩ := hx.keep q1
  obtain ⟨ms2, p3, p4⟩ := hx.keep q3
  exact ⟨xs2, ms2, pl, rh, w, h, op, H, p1, p2 _ _ q2, p3, p4 _ _ q4, q5.kp k0 (by decide), q6.kp k0 (by decide), q7.kp k0 (by decide), q8.kp k5 (by decide), q9.kp k5 (by decide), h43 _ _ q10, q11, q12⟩
theorem jpl.own {E : List jKd} {V V' : jH} {x m : Nat} (h : jpl V x m) (he : jeff E V V') (h0 : (.inr 0 : jKd) ∉ E) (h5 : (.inr 5 : jKd) ∉ E) (h43 : (.inl 43 : jKd) ∉ E) : jpl V' x m :=
  h.core he.1 (jkc.of he h0) (jkc.of he h5) (fun a f q => he.2 a _ q h43)
theorem jpl.ways {E : List jKd} {V V' : jH} {x m : Nat} (h : jpl V x m) (he : jeff E V V') (hk : jkc 0 [1, 2, 3] V V') (h5 : (.inr 5 : jKd) ∉ E) (h43 : (.inl 43 : jKd) ∉ E) : jpl V' x m :=
  h.core he.1 hk (jkc.of he h5) (fun a f q => he.2 a _ q h43)
theorem jpl.ref {E : List jKd} {ks : List Nat} {V V' : jH} {x m : Nat} (h : jpl V x m) (he : jeff E V V') (h0 : (.inr 0 : jKd) ∉ E) (hk : jkc 5 ks V V') (hs : ∀ k ∈ [23, 24], k ∈ ks) (h43 : (.inl 43 : jKd) ∉ E) : jpl V' x m :=
  h.core he.1 (jkc.of he h0) (hk.sub hs) (fun a f q => he.2 a _ q h43)
/-- a place's number is its own -/
theorem jcell_inj {w a b c d : Nat} (ha : a < w) (hc : c < w) (h : a + w * b = c + w * d) : a = c ∧ b = d := by
  have hw : 0 < w := by omega
  have h1 : (a + w * b) / w = b := by rw [Nat.add_mul_div_left _ _ hw, Nat.div_eq_of_lt ha, Nat.zero_add]
  have h2 : (c + w * d) / w = d := by rw [Nat.add_mul_div_left _ _ hw, Nat.div_eq_of_lt hc, Nat.zero_add]
  have h3 : b = d := by rw [← h1, h, h2]
  subst h3
  omega
theorem jpl.init {V : jH} {x m : Nat} (h1 : jpx V x) (h2 : jmx V m) (h3 : jfI V m 5 23 2) (h4 : jfI V m 5 24 2) : jpl V x m := by
  obtain ⟨xs, pl, q1, q2, w, h, op, p1, p2, p3, p4, p5, p6⟩ := h1
  obtain ⟨ms, rh, q3, q4, q5⟩ := h2
  have e1 : w = 2 := jI_inj.mp p4
  have e2 : h = 2 := jI_inj.mp p5
  subst e1
  subst e2
  exact ⟨xs, ms, pl, rh, 2, 2, op, _, q1, q2, q3, q4, p1, p2, p3, h3, h4, q5, by decide, fun n => (p6 n).trans ⟨fun ⟨a, b, q, e⟩ => ⟨a, b, q, e, rfl⟩, fun ⟨a, b, q, e, _⟩ => ⟨a, b, q, e⟩⟩⟩
theorem jpl.laid {V : jH} {x m pl rh : Nat} {x1 x2 w2 h2 w3 h3 : Int32} {op : Int64} {G : Nat → Int32} (hb : 2 ≤ x1.toInt ∧ x1.toInt ≤ 6 ∧ 2 ≤ x2.toInt ∧ x2.toInt ≤ 6) (r1 : jfR V x 4 6 pl) (r2 : jfR V m 5 25 rh) (c1 : jfI V pl 0 1 w2) (c2 : jfI V pl 0 2 h2) (c3 : jfL V pl 0 3 op) (e1 : w2.toInt = x1.toInt) (e2 : h2.toInt = x2.toInt) (hbits : ∀ n : Nat, jbt op n = true ↔ ∃ x y : Nat, ((x : Int) < x1.toInt ∧ (y : Int) < x2.toInt) ∧ n = 9 + x + 8 * y) (m1 : jfI V m 5 23 w3) (m2 : jfI V m 5 24 h3) (e3 : w3.toInt = x1.toInt) (e4 : h3.toInt = x2.toInt) (hG : V rh = some (.inl (43, 36, .inl G))) (hz : ∀ j : Nat, j < 36 → (G j).toInt = 0) : jpl V x m := by
  obtain rfl := jI_inj.mp e1
  obtain rfl := jI_inj.mp e2
  obtain rfl := jI_inj.mp e3
  obtain rfl := jI_inj.mp e4
  obtain ⟨xs, q1, q2⟩ := r1
  obtain ⟨ms, q3, q4⟩ := r2
  refine ⟨xs, ms, pl, rh, _, _, op, G, q1, q2, q3, q4, c1, c2, c3, m1, m2, hG, hb, fun n => (hbits n).trans ⟨fun ⟨a, b, q, e⟩ => ⟨a, b, q, e, hz _ ?_⟩, fun ⟨a, b, q, e, _⟩ => ⟨a, b, q, e⟩⟩⟩
  have h5 := Nat.mul_le_mul (show w3.toInt.toNat ≤ 6 by omega) (show b ≤ 5 by omega)
  omega
theorem jcell_nat {x y w : Int} (hx : 0 ≤ x) (hy : 0 ≤ y) (hw : 0 ≤ w) : (x + w * y).toNat = x.toNat + w.toNat * y.toNat := by
  rw [Int.toNat_add hx (Int.mul_nonneg hw hy), Int.toNat_mul hw hy]
theorem jpl_bit {op : Int64} {H : Nat → Int32} {w h x y : Int} (hb : ∀ n : Nat, jbt op n = true ↔ ∃ a b : Nat, ((a : Int) < w ∧ (b : Int) < h) ∧ n = 9 + a + 8 * b ∧ (H (a + w.toNat * b)).toInt = 0) (hw : w ≤ 6) (hx : 0 ≤ x) (hx2 : x < w) (hy : 0 ≤ y) (hy2 : y < h) : jbt op (9 + x + 8 * y).toNat = true ↔ (H (x + w * y).toNat).toInt = 0 := by
  rw [hb, jcell_nat hx hy (by omega)]
  constructor
  · rintro ⟨a, b, q, e, z⟩
    have h1 : a = x.toNat := by omega
    have h2 : b = y.toNat := by omega
    subst h1
    subst h2
    exact z
  · intro z
    exact ⟨x.toNat, y.toNat, by omega, by omega, z⟩
theorem jbit_eq {op : Int64} {N : Nat} {a x : Int} (hb : jbt op N = true ↔ a = 0) (h : a = x) : jbt op N = decide (x = 0) := by
  by_cases c : x = 0
  · rw [decide_eq_true c]
    exact hb.mpr (h.trans c)
  · rw [decide_eq_false c]
    exact Bool.eq_false_iff.mpr (fun q => c (h ▸ hb.mp q))
theorem jbit_ne {op : Int64} {N : Nat} {a x : Int} (hb : jbt op N = true ↔ a = 0) (ha : 0 ≤ a) (ha1 : a ≤ 1) (hx : 0 ≤ x) (hx1 : x ≤ 1) (h : ¬ a = x) : jbt op N = decide (x = 1) := by
  by_cases c : x = 1
  · rw [decide_eq_true c]
    exact hb.mpr (by omega)
  · rw [decide_eq_false c]
    exact Bool.eq_false_iff.mpr (fun q => by have q2 := hb.mp q; omega)
theorem jpl.turned {V : jH} {x m pl rh : Nat} {x1 x2 x3 w h : Int32} {op op2 : Int64} {H G : Nat → Int32} (r1 : jfR V x 4 6 pl) (r2 : jfR V m 5 25 rh) (c1 : jfI V pl 0 1 w) (c2 : jfI V pl 0 2 h) (c3 : jfL V pl 0 3 op2) (m1 : jfI V m 5 23 w) (m2 : jfI V m 5 24 h) (hG : V rh = some (.inl (43, 36, .inl G))) (hr : 2 ≤ w.toInt ∧ w.toInt ≤ 6 ∧ 2 ≤ h.toInt ∧ h.toInt ≤ 6) (hb : ∀ n : Nat, jbt op n = true ↔ ∃ a b : Nat, ((a : Int) < w.toInt ∧ (b : Int) < h.toInt) ∧ n = 9 + a + 8 * b ∧ (H (a + w.toInt.toNat * b)).toInt = 0) (hi : 0 ≤ x1.toInt ∧ x1.toInt < w.toInt ∧ 0 ≤ x2.toInt ∧ x2.toInt < h.toInt) (hx0 : 0 ≤ x3.toInt) (hx1 : x3.toInt ≤ 1) (hd : jbt op (9 + x1.toInt + 8 * x2.toInt).toNat = decide (x3.toInt = 1)) (ht : ∀ n : Nat, jbt op2 n = (jbt op n ^^ decide (n = (9 + x1.toInt + 8 * x2.toInt).toNat))) (hk : G (x1.toInt + w.toInt * x2.toInt).toNat = x3) (ho : ∀ j : Nat, j ≠ (x1.toInt + w.toInt * x2.toInt).toNat → G j = H j) : jpl V x m := by
  obtain ⟨xs, q1, q2⟩ := r1
  obtain ⟨ms, q3, q4⟩ := r2
  refine ⟨xs, ms, pl, rh, _, _, op2, G, q1, q2, q3, q4, c1, c2, c3, m1, m2, hG, hr, fun n => ?_⟩
  have hcn := jcell_nat hi.1 hi.2.2.1 (show 0 ≤ w.toInt by omega)
  rw [ht n]
  by_cases c : n = (9 + x1.toInt + 8 * x2.toInt).toNat
  · rw [decide_eq_true c, c, hd]
    constructor
    · intro z
      refine ⟨x1.toInt.toNat, x2.toInt.toNat, by omega, by omega, ?_⟩
      rw [← hcn, hk]
      by_cases e : x3.toInt = 1
      · rw [decide_eq_true e] at z; cases z
      · omega
    · rintro ⟨a, b, q, e, z⟩
      have h1 : a = x1.toInt.toNat := by omega
      have h2 : b = x2.toInt.toNat := by omega
      subst h1
      subst h2
      rw [← hcn, hk] at z
      rw [decide_eq_false (by omega)]
      rfl
  · rw [decide_eq_false c, Bool.xor_false, hb n]
    have hne : ∀ a b : Nat, ((a : Int) < w.toInt ∧ (b : Int) < h.toInt) → n = 9 + a + 8 * b → G (a + w.toInt.toNat * b) = H (a + w.toInt.toNat * b) := fun a b q e => ho _ (fun z => by
      rw [hcn] at z
      obtain ⟨h1, h2⟩ := jcell_inj (by omega) (by omega) z
      omega)
    exact ⟨fun ⟨a, b, q, e, z⟩ => ⟨a, b, q, e, by rw [hne a b q e]; exact z⟩, fun ⟨a, b, q, e, z⟩ => ⟨a, b, q, e, by rw [← hne a b q e]; exact z⟩⟩
theorem jbw (v : Int32) : ∃ w : Int32, 0 ≤ w.toInt ∧ w.toInt ≤ 1 ∧ (v = 0 → w = 0) ∧ (¬ v = 0 → w = 1) := by
  by_cases c : v = 0
  · exact ⟨0, by decide, by decide, fun _ => rfl, fun h => absurd c h⟩
  · exact ⟨1, by decide, by decide, fun h => absurd h c, fun _ => rfl⟩
/-- the pieces of the boards' relation -/
theorem jpl.parts {V : jH} {x m : Nat} (hj : jpl V x m) : ∃ (pl rh : Nat) (w h : Int32) (op : Int64) (H : Nat → Int32), jfR V x 4 6 pl ∧ jfR V m 5 25 rh ∧ jfI V pl 0 1 w ∧ jfI V pl 0 2 h ∧ jfL V pl 0 3 op ∧ jfI V m 5 23 w ∧ jfI V m 5 24 h ∧ V rh = some (.inl (43, 36, .inl H)) ∧ (2 ≤ w.toInt ∧ w.toInt ≤ 6 ∧ 2 ≤ h.toInt ∧ h.toInt ≤ 6) ∧ ∀ n : Nat, jbt op n = true ↔ ∃ a b : Nat, ((a : Int) < w.toInt ∧ (b : Int) < h.toInt) ∧ n = 9 + a + 8 * b ∧ (H (a + w.toInt.toNat * b)).toInt = 0 := by
  obtain ⟨xs, ms, pl, rh, w, h, op, H, q1, q2, q3, q4, q5, q6, q7, q8, q9, q10, q11, q12⟩ := hj
  exact ⟨pl, rh, w, h, op, H, ⟨_, q1, q2⟩, ⟨_, q3, q4⟩, q5, q6, q7, q8, q9, q10, q11, q12⟩
theorem jcell_lt {x y w h : Int} (hx : 0 ≤ x) (hx2 : x < w) (hy : 0 ≤ y) (hy2 : y < h) (hw : w ≤ 6) (hh : h ≤ 6) : (x + w * y).toNat < 36 := by
  rw [jcell_nat hx hy (by omega)]
  have h5 := Nat.mul_le_mul (show w.toNat ≤ 6 by omega) (show y.toNat ≤ 5 by omega)
  omega
theorem jpl_cnt {op : Int64} {H : Nat → Int32} {w h : Int} (hr : 2 ≤ w ∧ w ≤ 6 ∧ 2 ≤ h ∧ h ≤ 6) (hb : ∀ n : Nat, jbt op n = true ↔ ∃ a b : Nat, ((a : Int) < w ∧ (b : Int) < h) ∧ n = 9 + a + 8 * b ∧ (H (a + w.toNat * b)).toInt = 0) (hH : ∀ k, k < 36 → 0 ≤ (H k).toInt ∧ (H k).toInt ≤ 1) : ((jsum (fun n => (jbt op n).toNat) 64 : Nat) : Int) = ((jcn 1 H (w * h).toNat : Nat) : Int) := by
  have h1 := Nat.mul_le_mul (show w.toNat ≤ 6 by omega) (show h.toNat ≤ 6 by omega)
  rw [jopen_sum (w := w.toNat) (h := h.toNat) (by omega) (by omega) (fun k hk => hH k (by omega)) (fun n => (hb n).trans ⟨fun ⟨a, b, q, e⟩ => ⟨a, b, by omega, e⟩, fun ⟨a, b, q, e⟩ => ⟨a, b, by omega, e⟩⟩), Int.toNat_mul (by omega) (by omega)]
/-! the walks: what class and reference hold alike -/
abbrev jad : Type := Nat × Nat × Nat × Nat × Nat
abbrev jrwA (V : jH) (P : jad) (ln : Nat) (g n : Int) (S X Y Z : Nat → Int32) : Prop := jrw V P.1 P.2.1 P.2.2.1 P.2.2.2.1 P.2.2.2.2 ln g n S X Y Z
abbrev jadl (P : jad) : List Nat := [P.1, P.2.1, P.2.2.1, P.2.2.2.1, P.2.2.2.2]
def jsp (P Q : jad) : Prop := P.1 ≠ Q.1 ∧ P.2.1 ≠ Q.2.1 ∧ P.2.2.1 ≠ Q.2.2.1 ∧ P.2.2.2.1 ≠ Q.2.2.2.1 ∧ P.2.2.2.2 ≠ Q.2.2.2.2
theorem jsp.symm {P Q : jad} (h : jsp P Q) : jsp Q P := ⟨h.1.symm, h.2.1.symm, h.2.2.1.symm, h.2.2.2.1.symm, h.2.2.2.2.symm⟩
theorem jrw.mem {V : jH} {P : jad} {ln : Nat} {g n : Int} {S X Y Z : Nat → Int32} (h : jrwA V P ln g n S X Y Z) : ∀ b ∈ jadl P, ∃ e : jE, V b = some e ∧ jsh e ∈ jRK := by
  obtain ⟨⟨q0, ⟨fs, a0, -⟩, -⟩, -, -, -, -, -, -, c1, c2, c3, c4⟩ := h
  intro b hb
  simp only [jadl, List.mem_cons, List.not_mem_nil, or_false] at hb
  rcases hb with rfl | rfl | rfl | rfl | rfl
  · exact ⟨_, a0, jin_of rfl⟩
  · exact ⟨_, c1, jin_of rfl⟩
  · exact ⟨_, c2, jin_of rfl⟩
  · exact ⟨_, c3, jin_of rfl⟩
  · exact ⟨_, c4, jin_of rfl⟩
theorem jrw.same {V V' : jH} {P : jad} {ln : Nat} {g n : Int} {S X Y Z : Nat → Int32} (h : jrwA V P ln g n S X Y Z) (hs : ∀ b ∈ jadl P, V' b = V b) : jrwA V' P ln g n S X Y Z := by
  have s0 := hs P.1 (by simp [jadl])
  have s1 := hs P.2.1 (by simp [jadl])
  have s2 := hs P.2.2.1 (by simp [jadl])
  have s3 := hs P.2.2.2.1 (by simp [jadl])
  have s4 := hs P.2.2.2.2 (by simp [jadl])
  have kI : ∀ {k : Nat} {y : Int32}, jfI V P.1 1 k y → jfI V' P.1 1 k y := fun ⟨fs, h1, h2⟩ => ⟨fs, s0.trans h1, h2⟩
  have kR : ∀ {k b : Nat}, jfR V P.1 1 k b → jfR V' P.1 1 k b := fun ⟨fs, h1, h2⟩ => ⟨fs, s0.trans h1, h2⟩
  obtain ⟨⟨q0, a0, b0⟩, ⟨q5, a5, b5⟩, ⟨q6, a6, b6⟩, r1, r2, r3, r4, c1, c2, c3, c4⟩ := h
  exact ⟨⟨q0, kI a0, b0⟩, ⟨q5, kI a5, b5⟩, ⟨q6, kI a6, b6⟩, kR r1, kR r2, kR r3, kR r4, s1.trans c1, s2.trans c2, s3.trans c3, s4.trans c4⟩
theorem jdisj {V : jH} {P Q : jad} {ln lm : Nat} {g n g2 n2 : Int} {S X Y Z S2 X2 Y2 Z2 : Nat → Int32} (h : jrwA V P ln g n S X Y Z) (h2 : jrwA V Q lm g2 n2 S2 X2 Y2 Z2) (hs : jsp P Q) : ∀ b ∈ jadl P, b ∉ jadl Q := by
  obtain ⟨⟨q0, ⟨fs, a0, -⟩, -⟩, -, -, -, -, -, -, c1, c2, c3, c4⟩ := h
  obtain ⟨⟨p0, ⟨gs, b0, -⟩, -⟩, -, -, -, -, -, -, d1, d2, d3, d4⟩ := h2
  obtain ⟨s0, s1, s2, s3, s4⟩ := hs
  have key : ∀ (a b : Nat) (e e2 : jE), V a = some e → V b = some e2 → jsh e ≠ jsh e2 → a ≠ b := fun a b e e2 q1 q2 q3 z => by
    subst z
    rw [q1] at q2
    cases q2
    exact q3 rfl
  intro b hb hq
  simp only [jadl, List.mem_cons, List.not_mem_nil, or_false] at hb hq
  rcases hb with rfl | rfl | rfl | rfl | rfl <;> rcases hq with hq | hq | hq | hq | hq
  · exact s0 hq
  · exact key _ _ _ _ a0 d1 (by simp [jsh]) hq
  · exact key _ _ _ _ a0 d2 (by simp [jsh]) hq
  · exact key _ _ _ _ a0 d3 (by simp [jsh]) hq
  · exact key _ _ _ _ a0 d4 (by simp [jsh]) hq
  · exact key _ _ _ _ c1 b0 (by simp [jsh]) hq
  · exact s1 hq
  · exact key _ _ _ _ c1 d2 (by simp [jsh]) hq
  · exact key _ _ _ _ c1 d3 (by simp [jsh]) hq
  · exact key _ _ _ _ c1 d4 (by simp [jsh]) hq
  · exact key _ _ _ _ c2 b0 (by simp [jsh]) hq
  · exact key _ _ _ _ c2 d1 (by simp [jsh]) hq
  · exact s2 hq
  · exact key _ _ _ _ c2 d3 (by simp [jsh]) hq
  · exact key _ _ _ _ c2 d4 (by simp [jsh]) hq
  · exact key _ _ _ _ c3 b0 (by simp [jsh]) hq
  · exact key _ _ _ _ c3 d1 (by simp [jsh]) hq
  · exact key _ _ _ _ c3 d2 (by simp [jsh]) hq
  · exact s3 hq
  · exact key _ _ _ _ c3 d4 (by simp [jsh]) hq
  · exact key _ _ _ _ c4 b0 (by simp [jsh]) hq
  · exact key _ _ _ _ c4 d1 (by simp [jsh]) hq
  · exact key _ _ _ _ c4 d2 (by simp [jsh]) hq
  · exact key _ _ _ _ c4 d3 (by simp [jsh]) hq
  · exact s4 hq
def jwv (g n : Int) (T : Nat → Int) (S X Y Z : Nat → Int32) : Prop := (0 ≤ g ∧ g ≤ 3) ∧ (0 ≤ n ∧ n ≤ 60) ∧ (∀ j : Nat, (j : Int) < n → (S j).toInt = T j ∧ 0 ≤ T j ∧ T j < jdir g) ∧ jrv g T n.toNat X Y Z ∧ jav g T n.toNat
theorem jwv.congr {g n : Int} {T U : Nat → Int} {S X Y Z : Nat → Int32} (h : jwv g n T S X Y Z) (he : ∀ j : Nat, (j : Int) < n → T j = U j) : jwv g n U S X Y Z := by
  obtain ⟨h1, h2, h3, h4, h5⟩ := h
  exact ⟨h1, h2, fun j hj => by rw [← he j hj]; exact h3 j hj, h4.congr (fun k hk => he k (by omega)), h5.congr (fun k hk => he k (by omega))⟩
def jcl1 (V : jH) (x : Nat) (k : Int32) (md tr : Nat) (f : Nat → Option Nat) : Prop := jfI V x 4 1 k ∧ jfR V x 4 0 md ∧ V md = some (.inl (4, 16, .inr (.inr (.inr (.inr f))))) ∧ jfR V x 4 2 tr
def jrf1 (V : jH) (m : Nat) (k : Int32) (gr mn sp : Nat) (GA MN SP : Nat → Int32) : Prop := jfI V m 5 0 k ∧ jfR V m 5 1 gr ∧ jfR V m 5 2 mn ∧ jfR V m 5 3 sp ∧ V gr = some (.inl (14, 16, .inl GA)) ∧ V mn = some (.inl (15, 16, .inl MN)) ∧ V sp = some (.inl (16, 960, .inl SP))
def jtr1 (V : jH) (T : jad) : Prop := ∃ (g n : Int) (S X Y Z : Nat → Int32), jrwA V T 120 g n S X Y Z ∧ (X 0).toInt = 0 ∧ (Y 0).toInt = 0 ∧ (Z 0).toInt = 0
def jrow1 (V : jH) (f : Nat → Option Nat) (A : Nat → jad) (GA MN SP : Nat → Int32) (w : Nat) : Prop := ∃ S X Y Z : Nat → Int32, f w = some (A w).1 ∧ jrwA V (A w) 60 (GA w).toInt (MN w).toInt S X Y Z ∧ jwv (GA w).toInt (MN w).toInt (fun q => (SP (60 * w + q)).toInt) S X Y Z
def jsp1 (k : Int32) (A : Nat → jad) (T : jad) : Prop := (∀ w v : Nat, (w : Int) < k.toInt → (v : Int) < k.toInt → w ≠ v → jsp (A w) (A v)) ∧ ∀ w : Nat, (w : Int) < k.toInt → jsp (A w) T
def jrs (V : jH) (x m : Nat) : Prop := ∃ (k : Int32) (md gr mn sp : Nat) (f : Nat → Option Nat) (GA MN SP : Nat → Int32) (A : Nat → jad) (T : jad), jcl1 V x k md T.1 f ∧ jrf1 V m k gr mn sp GA MN SP ∧ jtr1 V T ∧ (0 ≤ k.toInt ∧ k.toInt ≤ 16) ∧ (∀ w : Nat, (w : Int) < k.toInt → jrow1 V f A GA MN SP w) ∧ jsp1 k A T
theorem jcl1.keep {E : List jKd} {V V' : jH} {x : Nat} {k : Int32} {md tr : Nat} {f : Nat → Option Nat} (h : jcl1 V x k md tr f) (he : jeff E V V') (h4 : (.inr 4 : jKd) ∉ E) (ha : (.inl 4 : jKd) ∉ E) : jcl1 V' x k md tr f := ⟨h.1.keep he h4, h.2.1.mono he.1, he.2 _ _ h.2.2.1 ha, h.2.2.2.mono he.1⟩
theorem jrf1.keep {E : List jKd} {V V' : jH} {m : Nat} {k : Int32} {gr mn sp : Nat} {GA MN SP : Nat → Int32} (h : jrf1 V m k gr mn sp GA MN SP) (he : jeff E V V') (h5 : (.inr 5 : jKd) ∉ E) (h14 : (.inl 14 : jKd) ∉ E) (h15 : (.inl 15 : jKd) ∉ E) (h16 : (.inl 16 : jKd) ∉ E) : jrf1 V' m k gr mn sp GA MN SP := ⟨h.1.keep he h5, h.2.1.mono he.1, h.2.2.1.mono he.1, h.2.2.2.1.mono he.1, he.2 _ _ h.2.2.2.2.1 h14, he.2 _ _ h.2.2.2.2.2.1 h15, he.2 _ _ h.2.2.2.2.2.2 h16⟩
theorem jrf1.kp {E : List jKd} {ks : List Nat} {V V' : jH} {m : Nat} {k : Int32} {gr mn sp : Nat} {GA MN SP : Nat → Int32} (h : jrf1 V m k gr mn sp GA MN SP) (he : jeff E V V') (hk : jkc 5 ks V V') (h0 : 0 ∈ ks) (h14 : (.inl 14 : jKd) ∉ E) (h15 : (.inl 15 : jKd) ∉ E) (h16 : (.inl 16 : jKd) ∉ E) : jrf1 V' m k gr mn sp GA MN SP := ⟨h.1.kp hk h0, h.2.1.mono he.1, h.2.2.1.mono he.1, h.2.2.2.1.mono he.1, he.2 _ _ h.2.2.2.2.1 h14, he.2 _ _ h.2.2.2.2.2.1 h15, he.2 _ _ h.2.2.2.2.2.2 h16⟩
theorem jtr1.keep {E : List jKd} {V V' : jH} {T : jad} (h : jtr1 V T) (he : jeff E V V') (hn : ∀ k ∈ jRK, k ∉ E) : jtr1 V' T := by
  obtain ⟨g, n, S, X, Y, Z, h1, h2⟩ := h
  exact ⟨g, n, S, X, Y, Z, h1.keep he hn, h2⟩
theorem jrow1.keep {E : List jKd} {V V' : jH} {f : Nat → Option Nat} {A : Nat → jad} {GA MN SP : Nat → Int32} {w : Nat} (h : jrow1 V f A GA MN SP w) (he : jeff E V V') (hn : ∀ k ∈ jRK, k ∉ E) : jrow1 V' f A GA MN SP w := by
  obtain ⟨S, X, Y, Z, h1, h2, h3⟩ := h
  exact ⟨S, X, Y, Z, h1, h2.keep he hn, h3⟩
theorem jrow1.same {V V' : jH} {f : Nat → Option Nat} {A : Nat → jad} {GA MN SP : Nat → Int32} {w : Nat} (h : jrow1 V f A GA MN SP w) (hs : ∀ b ∈ jadl (A w), V' b = V b) : jrow1 V' f A GA MN SP w := by
  obtain ⟨S, X, Y, Z, h1, h2, h3⟩ := h
  exact ⟨S, X, Y, Z, h1, h2.same hs, h3⟩
abbrev jOWN : List jKd := [.inr 4, .inr 5, .inl 4, .inl 14, .inl 15, .inl 16]
theorem jrs.own {E : List jKd} {V V' : jH} {x m : Nat} (h : jrs V x m) (he : jeff E V V') (ho : ∀ k ∈ jOWN, k ∉ E) (hn : ∀ k ∈ jRK, k ∉ E) : jrs V' x m := by
  obtain ⟨k, md, gr, mn, sp, f, GA, MN, SP, A, T, h1, h2, h3, h4, h5, h6⟩ := h
  exact ⟨k, md, gr, mn, sp, f, GA, MN, SP, A, T, h1.keep he (ho _ (jin_of rfl)) (ho _ (jin_of rfl)), h2.keep he (ho _ (jin_of rfl)) (ho _ (jin_of rfl)) (ho _ (jin_of rfl)) (ho _ (jin_of rfl)), h3.keep he hn, h4, fun w hw => (h5 w hw).keep he hn, h6⟩
theorem jrs.ref {E : List jKd} {ks : List Nat} {V V' : jH} {x m : Nat} (h : jrs V x m) (he : jeff E V V') (hk : jkc 5 ks V V') (h0 : 0 ∈ ks) (ho : ∀ k ∈ [(.inr 4 : jKd), .inl 4, .inl 14, .inl 15, .inl 16], k ∉ E) (hn : ∀ k ∈ jRK, k ∉ E) : jrs V' x m := by
  obtain ⟨k, md, gr, mn, sp, f, GA, MN, SP, A, T, h1, h2, h3, h4, h5, h6⟩ := h
  exact ⟨k, md, gr, mn, sp, f, GA, MN, SP, A, T, h1.keep he (ho _ (jin_of rfl)) (ho _ (jin_of rfl)), h2.kp he hk h0 (ho _ (jin_of rfl)) (ho _ (jin_of rfl)) (ho _ (jin_of rfl)), h3.keep he hn, h4, fun w hw => (h5 w hw).keep he hn, h6⟩
/-- only the trial row is changed -/
theorem jrs.trial {E : List jKd} {V V' : jH} {x m : Nat} (h : jrs V x m) (hW : WT V') (he : jeff E V V') (ho : ∀ k ∈ jOWN, k ∉ E) (ht : jrt x V V') : jrs V' x m := by
  obtain ⟨k, md, gr, mn, sp, f, GA, MN, SP, A, T, h1, h2, h3, h4, h5, h6⟩ := h
  obtain ⟨g, n, S, X, Y, Z, hj, z1, z2, z3⟩ := h3
  have hj2 := hj
  obtain ⟨⟨q0, a0, b0⟩, ⟨q5, a5, b5⟩, ⟨q6, a6, b6⟩, r1, r2, r3, r4, c1, c2, c3, c4⟩ := hj2
  obtain ⟨k1, k2, k3, k4, k5, k6⟩ := ht _ h1.2.2.2 _ _ _ _ r1 r2 r3 r4
  refine ⟨k, md, gr, mn, sp, f, GA, MN, SP, A, T, h1.keep he (ho _ (jin_of rfl)) (ho _ (jin_of rfl)), h2.keep he (ho _ (jin_of rfl)) (ho _ (jin_of rfl)) (ho _ (jin_of rfl)) (ho _ (jin_of rfl)), ?_, h4, fun w hw => (h5 w hw).same (fun b hb => ?_), h6⟩
  · obtain ⟨fs, hO, -⟩ := id a0
    obtain ⟨fs2, hO2, hR2⟩ := he.1.keep hO
    have hK2 : jokO V' (jFs 1) fs2 := hW _ _ id hO2
    obtain ⟨w5, f5, g5, rfl, -⟩ := hK2.2 5 (.inl (-2147483648, 2147483647)) rfl
    obtain ⟨w6, f6, g6, rfl, -⟩ := hK2.2 6 (.inl (0, 120)) rfl
    obtain ⟨S2, e1⟩ := k3 _ _ c1
    obtain ⟨X2, e2, e2'⟩ := k4 _ _ c2
    obtain ⟨Y2, e3, e3'⟩ := k5 _ _ c3
    obtain ⟨Z2, e4, e4'⟩ := k6 _ _ c4
    exact ⟨g5.toInt, g6.toInt, S2, X2, Y2, Z2, ⟨⟨q0, k2 _ a0, b0⟩, ⟨g5, ⟨_, hO2, f5⟩, rfl⟩, ⟨g6, ⟨_, hO2, f6⟩, rfl⟩, r1.mono he.1, r2.mono he.1, r3.mono he.1, r4.mono he.1, e1, e2, e3, e4⟩, by rw [e2']; exact z1, by rw [e3']; exact z2, by rw [e4']; exact z3⟩
  · obtain ⟨S9, X9, Y9, Z9, -, hr9, -⟩ := h5 w hw
    obtain ⟨e, q1, q2⟩ := jrw.mem hr9 b hb
    exact (k1 b e (jdisj hr9 hj (h6.2 w hw) b hb) q1 q2).trans q1.symm
/-- a walk is changed, the others are as they were -/
theorem jrs.upd {V V3 : jH} {x m : Nat} {k : Int32} {md gr mn sp w : Nat} {f : Nat → Option Nat} {GA MN SP M2 S2 : Nat → Int32} {A : Nat → jad} {T : jad} (h4 : 0 ≤ k.toInt ∧ k.toInt ≤ 16) (h5 : ∀ w : Nat, (w : Int) < k.toInt → jrow1 V f A GA MN SP w) (h6 : jsp1 k A T) (c : jcl1 V3 x k md T.1 f) (r : jrf1 V3 m k gr mn sp GA M2 S2) (t : jtr1 V3 T) (hMo : ∀ j : Nat, j ≠ w → M2 j = MN j) (hSo : ∀ q : Nat, q < 60 * w ∨ 60 * w + 60 ≤ q → S2 q = SP q) (hrow : jrow1 V3 f A GA M2 S2 w) (hkeep : ∀ v : Nat, (v : Int) < k.toInt → v ≠ w → ∀ b ∈ jadl (A v), V3 b = V b) : jrs V3 x m := by
  refine ⟨k, md, gr, mn, sp, f, GA, M2, S2, A, T, c, r, t, h4, fun v hv => ?_, h6⟩
  by_cases e : v = w
  · subst e
    exact hrow
  · obtain ⟨S, X, Y, Z, q1, q2, q3⟩ := h5 v hv
    have e2 := hMo v e
    refine ⟨S, X, Y, Z, q1, ?_, ?_⟩
    · rw [e2]
      exact q2.same (hkeep v hv e)
    · rw [e2]
      exact q3.congr (fun j hj => by rw [hSo (60 * v + j) (by have q4 := q3.2.1; omega)])
/-- what lies in other rows -/
theorem jrs.others {V : jH} {k : Int32} {f : Nat → Option Nat} {GA MN SP : Nat → Int32} {A : Nat → jad} {T : jad} {w : Nat} (h5 : ∀ w : Nat, (w : Int) < k.toInt → jrow1 V f A GA MN SP w) (h6 : jsp1 k A T) (ht : jtr1 V T) (hw : (w : Int) < k.toInt) : ∀ v : Nat, (v : Int) < k.toInt → v ≠ w → ∀ b ∈ jadl (A v), b ∉ jadl (A w) ∧ b ∉ jadl T ∧ ∃ e : jE, V b = some e ∧ jsh e ∈ jRK := fun v hv hne b hb => by
  obtain ⟨S, X, Y, Z, -, q2, -⟩ := h5 v hv
  obtain ⟨S2, X2, Y2, Z2, -, p2, -⟩ := h5 w hw
  obtain ⟨g, n, S3, X3, Y3, Z3, t1, -⟩ := ht
  exact ⟨jdisj q2 p2 (h6.1 v w hv hw hne) b hb, jdisj q2 t1 (h6.2 v hv) b hb, jrw.mem q2 b hb⟩
theorem WT_ref {V : jH} {m : Nat} (hW : WT V) (h : jis V (.inr 5) m) : ∃ (rw px py pz : Nat) (RW PX PY PZ : Nat → Int32), jfR V m 5 4 rw ∧ jfR V m 5 6 px ∧ jfR V m 5 7 py ∧ jfR V m 5 8 pz ∧ V rw = some (.inl (17, 120, .inl RW)) ∧ V px = some (.inl (18, 121, .inl PX)) ∧ V py = some (.inl (19, 121, .inl PY)) ∧ V pz = some (.inl (20, 121, .inl PZ)) := by
  obtain ⟨fs, hO, hK⟩ := WT_obj hW id h
  obtain ⟨w1, f1, a, rfl, h1⟩ := hK.2 4 (.inr (some (.inl 17))) rfl
  obtain ⟨w2, f2, b, rfl, h2⟩ := hK.2 6 (.inr (some (.inl 18))) rfl
  obtain ⟨w3, f3, c, rfl, h3⟩ := hK.2 7 (.inr (some (.inl 19))) rfl
  obtain ⟨w4, f4, d, rfl, h4⟩ := hK.2 8 (.inr (some (.inl 20))) rfl
  obtain ⟨l1, S, a1, -, m1, -⟩ := WT_arrI (r := (-2147483648, 2147483647)) hW id rfl h1
  obtain ⟨l2, X, a2, -, m2, -⟩ := WT_arrI (r := (-2147483648, 2147483647)) hW id rfl h2
  obtain ⟨l3, Y, a3, -, m3, -⟩ := WT_arrI (r := (-2147483648, 2147483647)) hW id rfl h3
  obtain ⟨l4, Z, a4, -, m4, -⟩ := WT_arrI (r := (-2147483648, 2147483647)) hW id rfl h4
  obtain rfl := m1 120 rfl
  obtain rfl := m2 121 rfl
  obtain rfl := m3 121 rfl
  obtain rfl := m4 121 rfl
  exact ⟨a, b, c, d, S, X, Y, Z, ⟨_, hO, f1⟩, ⟨_, hO, f2⟩, ⟨_, hO, f3⟩, ⟨_, hO, f4⟩, a1, a2, a3, a4⟩
theorem jTs_congr {T U : Nat → Int} {n : Nat} {d : Int} (h : ∀ q, q < n → T q = U q) : ∀ q : Nat, jTs T n d q = jTs U n d q := fun q => by
  unfold jTs
  by_cases c : q < n
  · rw [if_pos c, if_pos c, h q c]
  · rw [if_neg c, if_neg c]
theorem jTp_congr {T U : Nat → Int} {g t k : Int} {n : Nat} (h : ∀ q, q < n → T q = U q) : ∀ q : Nat, q < n → jTp g t k T q = jTp g t k U q := fun q hq => by
  unfold jTp
  rw [h q hq]
theorem jTj_congr {T U T2 U2 : Nat → Int} {n m : Nat} (h : ∀ q, q < n → T q = U q) (h2 : ∀ q, q < m → T2 q = U2 q) : ∀ q : Nat, q < n + m → jTj T n T2 q = jTj U n U2 q := fun q hq => by
  unfold jTj
  by_cases c : q < n
  · rw [if_pos c, if_pos c, h q c]
  · rw [if_neg c, if_neg c, h2 (q - n) (by omega)]
theorem jTb_congr {T U : Nat → Int} {g : Int} {n : Nat} (h : ∀ q, q < n → T q = U q) : ∀ q : Nat, q < n → jTb g T n q = jTb g U n q := fun q hq => by
  unfold jTb
  rw [h (n - 1 - q) (by omega)]
theorem jwv.mk {g n : Int} {T : Nat → Int} {S X Y Z : Nat → Int32} (hg : 0 ≤ g ∧ g ≤ 3) (h0 : 0 ≤ n) (h1 : n ≤ 60) (hS : ∀ j : Nat, (j : Int) < n → (S j).toInt = T j) (hr : ∀ j : Nat, (j : Int) < n → 0 ≤ T j ∧ T j < jdir g) (hv : jrv g T n.toNat X Y Z) (ha : jav g T n.toNat) : jwv g n T S X Y Z := ⟨hg, ⟨h0, h1⟩, fun j hj => ⟨hS j hj, hr j hj⟩, hv, ha⟩
theorem jTs_rng {T : Nat → Int} {g n d : Int} (h0 : 0 ≤ n) (h : ∀ j : Nat, (j : Int) < n → 0 ≤ T j ∧ T j < jdir g) (hd : 0 ≤ d ∧ d < jdir g) : ∀ j : Nat, (j : Int) < n + 1 → 0 ≤ jTs T n.toNat d j ∧ jTs T n.toNat d j < jdir g := fun j hj => by
  unfold jTs
  by_cases c : j < n.toNat
  · rw [if_pos c]
    exact h j (by omega)
  · rw [if_neg c]
    exact hd
theorem jTp_rng {T : Nat → Int} {g n t k : Int} (hg : 0 ≤ g ∧ g ≤ 3) (ht : 0 ≤ t ∧ t < jtur g) (h : ∀ j : Nat, (j : Int) < n → 0 ≤ T j ∧ T j < jdir g) : ∀ j : Nat, (j : Int) < n → 0 ≤ jTp g t k T j ∧ jTp g t k T j < jdir g := fun j hj => by
  unfold jTp
  by_cases c : (j : Int) < k
  · rw [if_pos c]
    exact h j hj
  · rw [if_neg c]
    exact jtn_b hg.1 hg.2 ht.1 ht.2 (h j hj).1 (h j hj).2
theorem jTj_rng {T U : Nat → Int} {g n m : Int} (h0 : 0 ≤ n) (h : ∀ j : Nat, (j : Int) < n → 0 ≤ T j ∧ T j < jdir g) (h2 : ∀ j : Nat, (j : Int) < m → 0 ≤ U j ∧ U j < jdir g) : ∀ j : Nat, (j : Int) < n + m → 0 ≤ jTj T n.toNat U j ∧ jTj T n.toNat U j < jdir g := fun j hj => by
  unfold jTj
  by_cases c : j < n.toNat
  · rw [if_pos c]
    exact h j (by omega)
  · rw [if_neg c]
    exact h2 (j - n.toNat) (by omega)
theorem jTb_rng {T : Nat → Int} {g n : Int} (h : ∀ j : Nat, (j : Int) < n → 0 ≤ T j ∧ T j < jdir g) : ∀ j : Nat, (j : Int) < n → 0 ≤ jTb g T n.toNat j ∧ jTb g T n.toNat j < jdir g := fun j hj => by
  unfold jTb
  have q := h (n.toNat - 1 - j) (by omega)
  exact jopp_b q.1 q.2
/-- a walk was changed: first by the class, then by the reference -/
theorem jrs.done {E5 : List jKd} {V V4 V3 : jH} {x m : Nat} {k : Int32} {md gr mn sp w : Nat} {f : Nat → Option Nat} {GA MN SP M2 P2 : Nat → Int32} {A : Nat → jad} {T : jad} {n' : Int} {T' : Nat → Int} {S2 X2 Y2 Z2 : Nat → Int32} (h1 : jcl1 V x k md T.1 f) (h4 : 0 ≤ k.toInt ∧ k.toInt ≤ 16) (h5 : ∀ w : Nat, (w : Int) < k.toInt → jrow1 V f A GA MN SP w) (h6 : jsp1 k A T) (ht : jtr1 V T) (hw : (w : Int) < k.toInt) {E : List jKd} (he : jeff E V V4) (he4 : (.inr 4 : jKd) ∉ E) (hea : (.inl 4 : jKd) ∉ E) (hL : ∀ b : Nat, b ∉ jadl (A w) → b ∉ jadl T → V4 b = V b) (t4 : jtr1 V4 T) (he5 : jeff E5 V4 V3) (hd5 : ∀ k ∈ jRK, k ∉ E5) (h54 : (.inr 4 : jKd) ∉ E5) (h5a : (.inl 4 : jKd) ∉ E5) (r : jrf1 V3 m k gr mn sp GA M2 P2) (hMw : (M2 w).toInt = n') (hMo : ∀ j : Nat, j ≠ w → M2 j = MN j) (hPw : ∀ j : Nat, (j : Int) < n' → (P2 (60 * w + j)).toInt = T' j) (hPo : ∀ q : Nat, q < 60 * w ∨ 60 * w + 60 ≤ q → P2 q = SP q) (hfo : f w = some (A w).1) (hj : jrwA V4 (A w) 60 (GA w).toInt n' S2 X2 Y2 Z2) (hv : jwv (GA w).toInt n' T' S2 X2 Y2 Z2) : jrs V3 x m := by
  refine jrs.upd h4 h5 h6 ((h1.keep he he4 hea).keep he5 h54 h5a) r (t4.keep he5 hd5) hMo hPo ⟨S2, X2, Y2, Z2, hfo, ?_, ?_⟩ (fun v hv2 hne b hb => ?_)
  · rw [hMw]
    exact hj.keep he5 hd5
  · rw [hMw]
    exact hv.congr (fun j hj2 => (hPw j hj2).symm)
  · obtain ⟨n1, n2, e, q1, q2⟩ := jrs.others h5 h6 ht hw v hv2 hne b hb
    exact (he5.2 b e ((hL b n1 n2).trans q1) (hd5 _ q2)).trans q1.symm
/-- only the trial row was changed, told exactly -/
theorem jrs.tri2 {E : List jKd} {V V4 : jH} {x m : Nat} {k : Int32} {md gr mn sp : Nat} {f : Nat → Option Nat} {GA MN SP : Nat → Int32} {A : Nat → jad} {T : jad} (h1 : jcl1 V x k md T.1 f) (h2 : jrf1 V m k gr mn sp GA MN SP) (ht : jtr1 V T) (h4 : 0 ≤ k.toInt ∧ k.toInt ≤ 16) (h5 : ∀ w : Nat, (w : Int) < k.toInt → jrow1 V f A GA MN SP w) (h6 : jsp1 k A T) (he : jeff E V V4) (ho : ∀ k ∈ jOWN, k ∉ E) (hf : jfp (jadl T) V V4) (t4 : jtr1 V4 T) : jrs V4 x m := by
  refine ⟨k, md, gr, mn, sp, f, GA, MN, SP, A, T, h1.keep he (ho _ (jin_of rfl)) (ho _ (jin_of rfl)), h2.keep he (ho _ (jin_of rfl)) (ho _ (jin_of rfl)) (ho _ (jin_of rfl)) (ho _ (jin_of rfl)), t4, h4, fun w hw => (h5 w hw).same (fun b hb => hf b ?_), h6⟩
  obtain ⟨S, X, Y, Z, -, q2, -⟩ := h5 w hw
  obtain ⟨g, n, S3, X3, Y3, Z3, t1, -⟩ := ht
  exact jdisj q2 t1 (h6.2 w hw) b hb
theorem jtr1.same {V V' : jH} {T : jad} (h : jtr1 V T) (hs : ∀ b ∈ jadl T, V' b = V b) : jtr1 V' T := by
  obtain ⟨g, n, S, X, Y, Z, h1, h2⟩ := h
  exact ⟨g, n, S, X, Y, Z, h1.same hs, h2⟩
/-- a walk was made -/
theorem jrs.walked {V V3 : jH} {x m : Nat} {k k2 : Int32} {md gr mn sp q s xx yy zz : Nat} {f : Nat → Option Nat} {GA MN SP G2 M2 : Nat → Int32} {A : Nat → jad} {T : jad} (hk2 : k2.toInt = k.toInt + 1) (h4 : 0 ≤ k.toInt ∧ k.toInt < 16) (h5 : ∀ w : Nat, (w : Int) < k.toInt → jrow1 V f A GA MN SP w) (h6 : jsp1 k A T) (ht : jtr1 V T) (c : jcl1 V3 x k2 md T.1 (va_up f k.toInt.toNat (some q))) (r : jrf1 V3 m k2 gr mn sp G2 M2 SP) (t3 : jtr1 V3 T) (hn : V q = none ∧ V s = none ∧ V xx = none ∧ V yy = none ∧ V zz = none) (hj : jrw V3 q s xx yy zz 60 (G2 k.toInt.toNat).toInt 0 (fun _ => 0) (fun _ => 0) (fun _ => 0) (fun _ => 0)) (hg : 0 ≤ (G2 k.toInt.toNat).toInt ∧ (G2 k.toInt.toNat).toInt ≤ 3) (hM : (M2 k.toInt.toNat).toInt = 0) (hGo : ∀ j : Nat, j ≠ k.toInt.toNat → G2 j = GA j) (hMo : ∀ j : Nat, j ≠ k.toInt.toNat → M2 j = MN j) (hkeep : ∀ (b : Nat) (e : jE), V b = some e → jsh e ∈ jRK → V3 b = some e) : jrs V3 x m := by
  have fr : ∀ P : jad, (∀ b ∈ jadl P, ∃ e : jE, V b = some e ∧ jsh e ∈ jRK) → jsp P (q, s, xx, yy, zz) := fun P hP => by
    have key : ∀ a b : Nat, (∃ e : jE, V a = some e ∧ jsh e ∈ jRK) → V b = none → a ≠ b := fun a b ⟨e, h1, _⟩ h2 z => by
      subst z
      rw [h1] at h2
      cases h2
    exact ⟨key _ _ (hP _ (by simp [jadl])) hn.1, key _ _ (hP _ (by simp [jadl])) hn.2.1, key _ _ (hP _ (by simp [jadl])) hn.2.2.1, key _ _ (hP _ (by simp [jadl])) hn.2.2.2.1, key _ _ (hP _ (by simp [jadl])) hn.2.2.2.2⟩
  have frw : ∀ w : Nat, (w : Int) < k.toInt → jsp (A w) (q, s, xx, yy, zz) := fun w hw => by
    obtain ⟨S, X, Y, Z, -, q2, -⟩ := h5 w hw
    exact fr _ (jrw.mem q2)
  have frt : jsp T (q, s, xx, yy, zz) := by
    obtain ⟨g, n, S, X, Y, Z, t1, -⟩ := ht
    exact fr _ (jrw.mem t1)
  refine ⟨k2, md, gr, mn, sp, _, G2, M2, SP, fun w => if w = k.toInt.toNat then (q, s, xx, yy, zz) else A w, T, c, r, t3, by omega, fun w hw => ?_, fun w v hw hv hne => ?_, fun w hw => ?_⟩
  · by_cases e : w = k.toInt.toNat
    · subst e
      refine ⟨fun _ => 0, fun _ => 0, fun _ => 0, fun _ => 0, ?_, ?_, ?_⟩
      · dsimp only
        rw [if_pos rfl]
        exact va_up_self _ _ _
      · dsimp only
        rw [if_pos rfl, hM]
        exact hj
      · rw [hM]
        exact ⟨hg, by decide, fun j hj2 => absurd hj2 (by omega), fun i hi => by rw [show i = 0 from Nat.le_zero.mp hi]; exact ⟨rfl, rfl, rfl⟩, jav.zero⟩
    · obtain ⟨S, X, Y, Z, q1, q2, q3⟩ := h5 w (by omega)
      refine ⟨S, X, Y, Z, ?_, ?_, ?_⟩
      · dsimp only
        rw [if_neg e, va_up_ne _ _ e]
        exact q1
      · dsimp only
        rw [if_neg e, hGo w e, hMo w e]
        refine q2.same (fun b hb => ?_)
        obtain ⟨e2, p1, p2⟩ := jrw.mem q2 b hb
        exact (hkeep b e2 p1 p2).trans p1.symm
      · rw [hGo w e, hMo w e]
        exact q3
  · dsimp only
    by_cases e : w = k.toInt.toNat
    · by_cases e2 : v = k.toInt.toNat
      · exact absurd (e.trans e2.symm) hne
      · rw [if_pos e, if_neg e2]
        exact (frw v (by omega)).symm
    · rw [if_neg e]
      by_cases e2 : v = k.toInt.toNat
      · rw [if_pos e2]
        exact frw w (by omega)
      · rw [if_neg e2]
        exact h6.1 w v (by omega) (by omega) hne
  · dsimp only
    by_cases e : w = k.toInt.toNat
    · rw [if_pos e]
      exact frt.symm
    · rw [if_neg e]
      exact h6.2 w (by omega)
theorem jrs.init {V : jH} {x m : Nat} (hW : WT V) (hx : jis V (.inr 4) x) (hm : jis V (.inr 5) m) (h1 : jfI V x 4 1 0) (h2 : jfI V m 5 0 0) (ht : jtx V x) : jrs V x m := by
  obtain ⟨tr, s, xx, yy, zz, r0, hj⟩ := ht
  obtain ⟨fs, hO, hK⟩ := WT_obj hW id hx
  obtain ⟨w0, f0, md, rfl, hmd⟩ := hK.2 0 (.inr (some (.inl 4))) rfl
  obtain ⟨n, f, hA, -, hM, -⟩ := WT_arrR hW id rfl hmd
  obtain rfl := hM 16 rfl
  obtain ⟨gs, hO2, hK2⟩ := WT_obj hW id hm
  obtain ⟨w1, g1, gr, rfl, e1⟩ := hK2.2 1 (.inr (some (.inl 14))) rfl
  obtain ⟨w2, g2, mn, rfl, e2⟩ := hK2.2 2 (.inr (some (.inl 15))) rfl
  obtain ⟨w3, g3, sp, rfl, e3⟩ := hK2.2 3 (.inr (some (.inl 16))) rfl
  obtain ⟨l1, GA, a1, -, m1, -⟩ := WT_arrI (r := (0, 3)) hW id rfl e1
  obtain ⟨l2, MN, a2, -, m2, -⟩ := WT_arrI (r := (0, 60)) hW id rfl e2
  obtain ⟨l3, SP, a3, -, m3, -⟩ := WT_arrI (r := (-2147483648, 2147483647)) hW id rfl e3
  obtain rfl := m1 16 rfl
  obtain rfl := m2 16 rfl
  obtain rfl := m3 960 rfl
  exact ⟨0, md, gr, mn, sp, f, GA, MN, SP, fun _ => (tr, s, xx, yy, zz), (tr, s, xx, yy, zz), ⟨h1, ⟨_, hO, f0⟩, hA, r0⟩, ⟨h2, ⟨_, hO2, g1⟩, ⟨_, hO2, g2⟩, ⟨_, hO2, g3⟩, a1, a2, a3⟩, ⟨0, 0, _, _, _, _, hj, rfl, rfl, rfl⟩, by decide, fun w hw => absurd hw (by show ¬ (w : Int) < 0; omega), fun w v hw => absurd hw (by show ¬ (w : Int) < 0; omega), fun w hw => absurd hw (by show ¬ (w : Int) < 0; omega)⟩
theorem jrs.cnt {V : jH} {x m : Nat} (h : jrs V x m) : ∃ k : Int32, jfI V x 4 1 k ∧ jfI V m 5 0 k := by
  obtain ⟨k, md, gr, mn, sp, f, GA, MN, SP, A, T, h1, h2, -⟩ := h
  exact ⟨k, h1.1, h2.1⟩
/-! all that class and reference hold alike -/
def jRL (V : jH) (x m : Nat) : Prop := jrs V x m ∧ jpl V x m
abbrev jOA : List jKd := [.inr 0, .inl 43, .inr 4, .inr 5, .inl 4, .inl 14, .inl 15, .inl 16, .inr 1, .inl 6, .inl 34, .inl 35, .inl 36]
abbrev jOB : List jKd := [.inl 43, .inr 4, .inr 5, .inl 4, .inl 14, .inl 15, .inl 16, .inr 1, .inl 6, .inl 34, .inl 35, .inl 36]
abbrev jOC : List jKd := [.inr 0, .inl 43, .inr 4, .inl 4, .inl 14, .inl 15, .inl 16, .inr 1, .inl 6, .inl 34, .inl 35, .inl 36]
abbrev jOD : List jKd := [.inr 0, .inl 43, .inr 4, .inr 5, .inl 4, .inl 14, .inl 15, .inl 16]
theorem jRL.own {E : List jKd} {V V' : jH} {x m : Nat} (h : jRL V x m) (he : jeff E V V') (hd : ∀ k ∈ jOA, k ∉ E) : jRL V' x m := ⟨h.1.own he (fun k hk => hd k (jsub_of rfl k hk)) (fun k hk => hd k (jsub_of rfl k hk)), h.2.own he (hd _ (jin_of rfl)) (hd _ (jin_of rfl)) (hd _ (jin_of rfl))⟩
theorem jRL.ways {E : List jKd} {V V' : jH} {x m : Nat} (h : jRL V x m) (he : jeff E V V') (hk : jkc 0 [1, 2, 3] V V') (hd : ∀ k ∈ jOB, k ∉ E) : jRL V' x m := ⟨h.1.own he (fun k hk => hd k (jsub_of rfl k hk)) (fun k hk => hd k (jsub_of rfl k hk)), h.2.ways he hk (hd _ (jin_of rfl)) (hd _ (jin_of rfl))⟩
theorem jRL.ref {E : List jKd} {ks : List Nat} {V V' : jH} {x m : Nat} (h : jRL V x m) (he : jeff E V V') (hk : jkc 5 ks V V') (hs : ∀ k ∈ [0, 23, 24], k ∈ ks) (hd : ∀ k ∈ jOC, k ∉ E) : jRL V' x m := ⟨h.1.ref he hk (hs 0 (by decide)) (fun k hk => hd k (jsub_of rfl k hk)) (fun k hk => hd k (jsub_of rfl k hk)), h.2.ref he (hd _ (jin_of rfl)) hk (fun k hk2 => hs k (List.mem_cons_of_mem _ hk2)) (hd _ (jin_of rfl))⟩
theorem jRL.trial {E : List jKd} {V V' : jH} {x m : Nat} (h : jRL V x m) (hW : WT V') (he : jeff E V V') (ht : jrt x V V') (hd : ∀ k ∈ jOD, k ∉ E) : jRL V' x m := ⟨h.1.trial hW he (fun k hk => hd k (jsub_of rfl k hk)) ht, h.2.own he (hd _ (jin_of rfl)) (hd _ (jin_of rfl)) (hd _ (jin_of rfl))⟩
theorem jnI_eq {x : Int32} {j k : Nat} (h1 : x = nI k) (h2 : x = nI j) (hk : k < 4) (hj : j < 4) : k = j := by
  have h3 : x.toNatClampNeg = k := by rw [h1]; exact nI_clamp (by omega)
  have h4 : x.toNatClampNeg = j := by rw [h2]; exact nI_clamp (by omega)
  omega
theorem jg_le {g : Nat → Nat} {G j : Nat} (h : g 0 + g 1 + g 2 + g 3 ≤ G) (hj : j < 4) : g j ≤ G := by
  rcases (show j = 0 ∨ j = 1 ∨ j = 2 ∨ j = 3 by omega) with rfl | rfl | rfl | rfl <;> omega
theorem jg_none {V : jH} {f : Nat → Option Nat} {g : Nat → Nat} {G j : Nat} (hg : ∀ j, j < 4 → jw9 V f j (g j)) (h : g 0 + g 1 + g 2 + g 3 ≤ G) (hj : j < 4) (hf : f j = none) : 9 ≤ G := by
  have h1 := jg_le h hj
  rcases hg j hj with ⟨-, q2⟩ | ⟨t2, rc2, ts3, h3, e1, -⟩
  · omega
  · rw [hf] at e1; cases e1
theorem jg_some {V : jH} {f : Nat → Option Nat} {g : Nat → Nat} {G j t rc x : Nat} {ts : List Value} {h : Nat → Int32} (hg : ∀ j, j < 4 → jw9 V f j (g j)) (hs : g 0 + g 1 + g 2 + g 3 ≤ G) (hj : j < 4) (hf : f j = some t) (ht : V t = some (.inr (2, ts))) (hr : ts[9]? = some (.ref rc)) (hrc : V rc = some (.inl (9, 7, .inl h))) (hx : x < 7) (hm : (h x).toInt = -1) : 1 ≤ G := by
  have h1 := jg_le hs hj
  have h2 := jcn_lt hm 7 hx
  rcases hg j hj with ⟨q1, q2⟩ | ⟨t2, rc2, ts3, h3, e1, e2, e3, e4, e5⟩
  · omega
  · have q1 := Option.some.inj (hf.symm.trans e1)
    subst q1
    cases ht.symm.trans e2
    cases hr.symm.trans e3
    cases hrc.symm.trans e4
    omega
abbrev mL_law : jM := (yL_law, cL_law, 4, some .boolean)
