/-! the room that is still owed: 9 for a ground without a tally, else its places of -1 -/
def jw9 (V : jH) (f : Nat → Option Nat) (j m : Nat) : Prop := (f j = none ∧ m = 9) ∨ ∃ (t rc : Nat) (ts : List Value) (h : Nat → Int32), f j = some t ∧ V t = some (.inr (2, ts)) ∧ ts[9]? = some (.ref rc) ∧ V rc = some (.inl (9, 7, .inl h)) ∧ m + jcn (-1) h 7 = 7
def jphi (V : jH) (a G : Nat) : Prop := ∃ (fs : List Value) (tl : Nat) (f : Nat → Option Nat) (g : Nat → Nat), V a = some (.inr (4, fs)) ∧ fs[5]? = some (.ref tl) ∧ V tl = some (.inl (5, 4, .inr (.inr (.inr (.inr f))))) ∧ (∀ j, j < 4 → jw9 V f j (g j)) ∧ g 0 + g 1 + g 2 + g 3 ≤ G
theorem jw_all {P : Nat → Nat → Prop} {g : Nat → Nat} (h : ∀ j, j < 4 → ∃ m, m ≤ g j ∧ P j m) : ∃ g' : Nat → Nat, (∀ j, j < 4 → P j (g' j)) ∧ ∀ j, j < 4 → g' j ≤ g j := by
  refine ⟨fun j => if hj : j < 4 then Classical.choose (h j hj) else 0, fun j hj => ?_, fun j hj => ?_⟩
  · have h1 := (Classical.choose_spec (h j hj)).2
    dsimp only
    rw [dif_pos hj]
    exact h1
  · have h1 := (Classical.choose_spec (h j hj)).1
    dsimp only
    rw [dif_pos hj]
    exact h1
theorem jw9.step {V V' : jH} {f : Nat → Option Nat} {j m : Nat} (hx : jext V V') (h9 : jle9 V V') (h : jw9 V f j m) : ∃ m' : Nat, m' ≤ m ∧ jw9 V' f j m' := by
  rcases h with ⟨h1, h2⟩ | ⟨t, rc, ts, h, hf, ht, hr, hrc, hm⟩
  · exact ⟨m, Nat.le_refl _, Or.inl ⟨h1, h2⟩⟩
  · obtain ⟨ts2, ht2, hk⟩ := hx.keep ht
    obtain ⟨h2, hrc2, hl⟩ := h9 rc h hrc
    have h3 := jcn_le (c := -1) (F := h2) 7
    exact ⟨7 - jcn (-1) h2 7, by omega, Or.inr ⟨t, rc, ts2, h2, hf, ht2, hk 9 rc hr, hrc2, by omega⟩⟩
theorem jw9.of {V : jH} {f : Nat → Option Nat} {j t : Nat} (hW : WT V) (hf : f j = some t) (ht : jis V (.inr 2) t) : ∃ m : Nat, m ≤ 7 ∧ jw9 V f j m := by
  obtain ⟨ts, hO, hK⟩ := WT_obj hW id ht
  obtain ⟨w, hF, rc, rfl, hrc⟩ := hK.2 9 (.inr (some (.inl 9))) rfl
  obtain ⟨n, h, hA, -, hM, -⟩ := WT_arrI (r := (-2147483648, 2147483647)) hW id rfl hrc
  obtain rfl := hM 7 rfl
  have h3 := jcn_le (c := -1) (F := h) 7
  exact ⟨7 - jcn (-1) h 7, by omega, Or.inr ⟨t, rc, ts, h, hf, hO, hF, hA, by omega⟩⟩
theorem jphi.init {V : jH} {a : Nat} (hW : WT V) (h : jis V (.inr 4) a) : jphi V a 36 := by
  obtain ⟨fs, hO, hK⟩ := WT_obj hW id h
  obtain ⟨w, hF, tl, rfl, htl⟩ := hK.2 5 (.inr (some (.inl 5))) rfl
  obtain ⟨n, f, hA, -, hM, hv⟩ := WT_arrR hW id rfl htl
  obtain rfl := hM 4 rfl
  obtain ⟨g, h1, h2⟩ := jw_all (P := fun j m => jw9 V f j m) (g := fun _ => 9) (fun j hj => by
    cases hf : f j with
    | none => exact ⟨9, Nat.le_refl _, Or.inl ⟨hf, rfl⟩⟩
    | some t =>
      obtain ⟨m, q1, q2⟩ := jw9.of hW hf (hv j t hj hf)
      exact ⟨m, by omega, q2⟩)
  have e0 := h2 0 (by omega)
  have e1 := h2 1 (by omega)
  have e2 := h2 2 (by omega)
  have e3 := h2 3 (by omega)
  exact ⟨fs, tl, f, g, hO, hF, hA, h1, by omega⟩
theorem jphi.core {V V' : jH} {a G : Nat} {fs : List Value} {tl : Nat} {f : Nat → Option Nat} {g : Nat → Nat} (hO : V a = some (.inr (4, fs))) (hF : fs[5]? = some (.ref tl)) (hA : V' tl = some (.inl (5, 4, .inr (.inr (.inr (.inr f)))))) (hg : ∀ j, j < 4 → jw9 V f j (g j)) (hs : g 0 + g 1 + g 2 + g 3 ≤ G) (hx : jext V V') (h9 : jle9 V V') : jphi V' a G := by
  obtain ⟨fs2, hO2, hk⟩ := hx.keep hO
  obtain ⟨g2, h1, h2⟩ := jw_all (P := fun j m => jw9 V' f j m) (g := g) (fun j hj => (hg j hj).step hx h9)
  have e0 := h2 0 (by omega)
  have e1 := h2 1 (by omega)
  have e2 := h2 2 (by omega)
  have e3 := h2 3 (by omega)
  exact ⟨fs2, tl, f, g2, hO2, hk 5 tl hF, hA, h1, by omega⟩
theorem jphi.keep {E : List jKd} {V V' : jH} {a G : Nat} (h : jphi V a G) (hx : jeff E V V') (h5 : (.inl 5 : jKd) ∉ E) (h9 : (.inl 9 : jKd) ∉ E) : jphi V' a G := by
  obtain ⟨fs, tl, f, g, hO, hF, hA, hg, hs⟩ := h
  exact jphi.core hO hF (hx.2 _ _ hA h5) hg hs hx.1 (jle9.of hx h9)
theorem jphi.alloc {V V' : jH} {a G j t rc : Nat} {fs ts : List Value} {tl : Nat} {f : Nat → Option Nat} {g : Nat → Nat} {h H : Nat → Int32} (hO : V a = some (.inr (4, fs))) (hF : fs[5]? = some (.ref tl)) (hA : V' tl = some (.inl (5, 4, .inr (.inr (.inr (.inr f)))))) (hg : ∀ j, j < 4 → jw9 V f j (g j)) (hs : g 0 + g 1 + g 2 + g 3 ≤ G) (hx : jext V V') (h9 : jle9 V V') (hj : j < 4) (hf : f j = some t) (ht : V t = some (.inr (2, ts))) (hr : ts[9]? = some (.ref rc)) (hrc : V rc = some (.inl (9, 7, .inl h))) (hH : V' rc = some (.inl (9, 7, .inl H))) (hc : jcn (-1) H 7 = jcn (-1) h 7 + 1) : 1 ≤ G ∧ jphi V' a (G - 1) := by
  obtain ⟨fs2, hO2, hk⟩ := hx.keep hO
  obtain ⟨ts2, ht2, hk2⟩ := hx.keep ht
  have hl := jcn_le (c := -1) (F := H) 7
  have hgj : g j + jcn (-1) h 7 = 7 := by
    rcases hg j hj with ⟨h1, h2⟩ | ⟨t2, rc2, ts3, h3, e1, e2, e3, e4, e5⟩
    · rw [hf] at h1; cases h1
    · have q1 := Option.some.inj (hf.symm.trans e1)
      subst q1
      cases ht.symm.trans e2
      cases hr.symm.trans e3
      cases hrc.symm.trans e4
      exact e5
  obtain ⟨g2, h1, h2⟩ := jw_all (P := fun i m => jw9 V' f i m) (g := fun i => if i = j then g j - 1 else g i) (fun i hi => by
    by_cases hij : i = j
    · subst hij
      refine ⟨7 - jcn (-1) H 7, ?_, Or.inr ⟨t, rc, ts2, H, hf, ht2, hk2 9 rc hr, hH, by omega⟩⟩
      rw [if_pos rfl]
      omega
    · rw [if_neg hij]
      exact (hg i hi).step hx h9)
  have e0 := h2 0 (by omega)
  have e1 := h2 1 (by omega)
  have e2 := h2 2 (by omega)
  have e3 := h2 3 (by omega)
  refine (fun q : g2 0 + g2 1 + g2 2 + g2 3 + 1 ≤ G => ⟨by omega, fs2, tl, f, g2, hO2, hk 5 tl hF, hA, h1, by omega⟩) ?_
  rcases (show j = 0 ∨ j = 1 ∨ j = 2 ∨ j = 3 by omega) with rfl | rfl | rfl | rfl
  · rw [if_pos rfl] at e0; rw [if_neg (by omega)] at e1 e2 e3; omega
  · rw [if_pos rfl] at e1; rw [if_neg (by omega)] at e0 e2 e3; omega
  · rw [if_pos rfl] at e2; rw [if_neg (by omega)] at e0 e1 e3; omega
  · rw [if_pos rfl] at e3; rw [if_neg (by omega)] at e0 e1 e2; omega
theorem jphi.fresh {V V' : jH} {a G j : Nat} {fs : List Value} {tl : Nat} {f f2 : Nat → Option Nat} {g : Nat → Nat} (hO : V a = some (.inr (4, fs))) (hF : fs[5]? = some (.ref tl)) (hA : V' tl = some (.inl (5, 4, .inr (.inr (.inr (.inr f2)))))) (hg : ∀ j, j < 4 → jw9 V f j (g j)) (hs : g 0 + g 1 + g 2 + g 3 ≤ G) (hx : jext V V') (h9 : jle9 V V') (hW : WT V') (hj : j < 4) (hf : f j = none) (h2 : ∀ i, i ≠ j → f2 i = f i) (h3 : ∃ t, f2 j = some t) : 2 ≤ G ∧ jphi V' a (G - 2) := by
  obtain ⟨fs2, hO2, hk⟩ := hx.keep hO
  obtain ⟨t, ht⟩ := h3
  obtain ⟨n, f3, hA3, -, -, hv⟩ := WT_arrR hW id rfl (show jis V' (.inl 5) tl from ⟨_, hA, rfl⟩)
  cases hA.symm.trans hA3
  have hgj : g j = 9 := by
    rcases hg j hj with ⟨h1, h2⟩ | ⟨t2, rc2, ts3, h3, e1, -⟩
    · exact h2
    · rw [hf] at e1; cases e1
  obtain ⟨g2, h1, h4⟩ := jw_all (P := fun i m => jw9 V' f2 i m) (g := fun i => if i = j then 7 else g i) (fun i hi => by
    by_cases hij : i = j
    · subst hij
      rw [if_pos rfl]
      exact jw9.of hW ht (hv i t hi ht)
    · rw [if_neg hij]
      obtain ⟨m, q1, q2⟩ := (hg i hi).step hx h9
      refine ⟨m, q1, ?_⟩
      rcases q2 with ⟨w1, w2⟩ | ⟨t5, rc5, ts5, h5, w1, w2⟩
      · exact Or.inl ⟨(h2 i hij).trans w1, w2⟩
      · exact Or.inr ⟨t5, rc5, ts5, h5, (h2 i hij).trans w1, w2⟩)
  have e0 := h4 0 (by omega)
  have e1 := h4 1 (by omega)
  have e2 := h4 2 (by omega)
  have e3 := h4 3 (by omega)
  refine (fun q : g2 0 + g2 1 + g2 2 + g2 3 + 2 ≤ G => ⟨by omega, fs2, tl, f2, g2, hO2, hk 5 tl hF, hA, h1, by omega⟩) ?_
  rcases (show j = 0 ∨ j = 1 ∨ j = 2 ∨ j = 3 by omega) with rfl | rfl | rfl | rfl
  · rw [if_pos rfl] at e0; rw [if_neg (by omega)] at e1 e2 e3; omega
  · rw [if_pos rfl] at e1; rw [if_neg (by omega)] at e0 e2 e3; omega
  · rw [if_pos rfl] at e2; rw [if_neg (by omega)] at e0 e1 e3; omega
  · rw [if_pos rfl] at e3; rw [if_neg (by omega)] at e0 e1 e2; omega
/-! what class and reference hold alike: how many walks were made -/
def jrl (V : jH) (x m : Nat) : Prop := ∃ k : Int32, jfI V x 4 1 k ∧ jfI V m 5 0 k
theorem jrl.own {E : List jKd} {V V' : jH} {x m : Nat} (h : jrl V x m) (he : jeff E V V') (h4 : (.inr 4 : jKd) ∉ E) (h5 : (.inr 5 : jKd) ∉ E) : jrl V' x m := by
  obtain ⟨k, h1, h2⟩ := h
  exact ⟨k, h1.keep he h4, h2.keep he h5⟩
theorem jrl.ref {E : List jKd} {ks : List Nat} {V V' : jH} {x m : Nat} (h : jrl V x m) (he : jeff E V V') (h4 : (.inr 4 : jKd) ∉ E) (hk : jkc 5 ks V V') (hm : 0 ∈ ks) : jrl V' x m := by
  obtain ⟨k, h1, h2⟩ := h
  exact ⟨k, h1.keep he h4, h2.kp hk hm⟩
/-! what class and reference hold alike: the board -/
theorem jkc.sub {c : Nat} {ks ks2 : List Nat} {V V' : jH} (h : jkc c ks V V') (hs : ∀ k ∈ ks2, k ∈ ks) : jkc c ks2 V V' := fun a fs q => by
  obtain ⟨fs', h1, h2⟩ := h a fs q
  exact ⟨fs', h1, fun k hk => h2 k (hs k hk)⟩
def jpl (V : jH) (x m : Nat) : Prop := ∃ (xs ms : List Value) (pl rh : Nat) (w h : Int32) (op : Int64) (H : Nat → Int32), V x = some (.inr (4, xs)) ∧ xs[6]? = some (.ref pl) ∧ V m = some (.inr (5, ms)) ∧ ms[25]? = some (.ref rh) ∧ jfI V pl 0 1 w ∧ jfI V pl 0 2 h ∧ jfL V pl 0 3 op ∧ jfI V m 5 23 w ∧ jfI V m 5 24 h ∧ V rh = some (.inl (43, 36, .inl H)) ∧ (2 ≤ w.toInt ∧ w.toInt ≤ 6 ∧ 2 ≤ h.toInt ∧ h.toInt ≤ 6) ∧ ∀ n : Nat, jbt op n = true ↔ ∃ a b : Nat, ((a : Int) < w.toInt ∧ (b : Int) < h.toInt) ∧ n = 9 + a + 8 * b ∧ (H (a + w.toInt.toNat * b)).toInt = 0
theorem jpl.core {V V' : jH} {x m : Nat} (h : jpl V x m) (hx : jext V V') (k0 : jkc 0 [1, 2, 3] V V') (k5 : jkc 5 [23, 24] V V') (h43 : ∀ (a : Nat) (f : Nat → Int32), V a = some (.inl (43, 36, .inl f)) → V' a = some (.inl (43, 36, .inl f))) : jpl V' x m := by
  obtain ⟨xs, ms, pl, rh, w, h, op, H, q1, q2, q3, q4, q5, q6, q7, q8, q9, q10, q11, q12⟩ := h
  obtain ⟨xs2, p1, p2⟩ := hx.keep q1
  obtain ⟨ms2, p3, p4⟩ := hx.keep q3
  exact ⟨xs2, ms2, pl, rh, w, h, op, H, p1, p2 _ _ q2, p3, p4 _ _ q4, q5.kp k0 (by decide), q6.kp k0 (by decide), q7.kp k0 (by decide), q8.kp k5 (by decide), q9.kp k5 (by decide), h43 _ _ q10, q11, q12⟩
theorem jpl.own {E : List jKd} {V V' : jH} {x m : Nat} (h : jpl V x m) (he : jeff E V V') (h0 : (.inr 0 : jKd) ∉ E) (h5 : (.inr 5 : jKd) ∉ E) (h43 : (.inl 43 : jKd) ∉ E) : jpl V' x m :=
  h.core he.1 (jkc.of he h0) (jkc.of he h5) (fun a f q => he.2 a _ q h43)
theorem jpl.ways {E : List jKd} {V V' : jH} {x m : Nat} (h : jpl V x m) (he : jeff E V V') (hk : jkc 0 [1, 2, 3] V V') (h5 : (.inr 5 : jKd) ∉ E) (h43 : (.inl 43 : jKd) ∉ E) : jpl V' x m :=
  h.core he.1 hk (jkc.of he h5) (fun a f q => he.2 a _ q h43)
theorem jpl.ref {E : List jKd} {ks : List Nat} {V V' : jH} {x m : Nat} (h : jpl V x m) (he : jeff E V V') (h0 : (.inr 0 : jKd) ∉ E) (hk : jkc 5 ks V V') (hs : ∀ k ∈ [23, 24], k ∈ ks) (h43 : (.inl 43 : jKd) ∉ E) : jpl V' x m :=
  h.core he.1 (jkc.of he h0) (hk.sub hs) (fun a f q => he.2 a _ q h43)
/-- a place's number is its own -/
theorem jcell_inj {w a b c d : Nat} (ha : a < w) (hc : c < w) (h : a + w * b = c + w * d) : a = c ∧ b = d := by
  have hw : 0 < w := by omega
  have h1 : (a + w * b) / w = b := by rw [Nat.add_mul_div_left _ _ hw, Nat.div_eq_of_lt ha, Nat.zero_add]
  have h2 : (c + w * d) / w = d := by rw [Nat.add_mul_div_left _ _ hw, Nat.div_eq_of_lt hc, Nat.zero_add]
  have h3 : b = d := by rw [← h1, h, h2]
  subst h3
  omega
theorem jpl.init {V : jH} {x m : Nat} (h1 : jpx V x) (h2 : jmx V m) (h3 : jfI V m 5 23 2) (h4 : jfI V m 5 24 2) : jpl V x m := by
  obtain ⟨xs, pl, q1, q2, w, h, op, p1, p2, p3, p4, p5, p6⟩ := h1
  obtain ⟨ms, rh, q3, q4, q5⟩ := h2
  have e1 : w = 2 := jI_inj.mp p4
  have e2 : h = 2 := jI_inj.mp p5
  subst e1
  subst e2
  exact ⟨xs, ms, pl, rh, 2, 2, op, _, q1, q2, q3, q4, p1, p2, p3, h3, h4, q5, by decide, fun n => (p6 n).trans ⟨fun ⟨a, b, q, e⟩ => ⟨a, b, q, e, rfl⟩, fun ⟨a, b, q, e, _⟩ => ⟨a, b, q, e⟩⟩⟩
theorem jfR.mono {V V' : jH} {a ci k b : Nat} (h : jfR V a ci k b) (hx : jext V V') : jfR V' a ci k b := by
  obtain ⟨fs, h1, h2⟩ := h
  obtain ⟨fs2, h3, h4⟩ := hx.keep h1
  exact ⟨fs2, h3, h4 _ _ h2⟩
theorem jpl.laid {V : jH} {x m pl rh : Nat} {x1 x2 w2 h2 w3 h3 : Int32} {op : Int64} {G : Nat → Int32} (hb : 2 ≤ x1.toInt ∧ x1.toInt ≤ 6 ∧ 2 ≤ x2.toInt ∧ x2.toInt ≤ 6) (r1 : jfR V x 4 6 pl) (r2 : jfR V m 5 25 rh) (c1 : jfI V pl 0 1 w2) (c2 : jfI V pl 0 2 h2) (c3 : jfL V pl 0 3 op) (e1 : w2.toInt = x1.toInt) (e2 : h2.toInt = x2.toInt) (hbits : ∀ n : Nat, jbt op n = true ↔ ∃ x y : Nat, ((x : Int) < x1.toInt ∧ (y : Int) < x2.toInt) ∧ n = 9 + x + 8 * y) (m1 : jfI V m 5 23 w3) (m2 : jfI V m 5 24 h3) (e3 : w3.toInt = x1.toInt) (e4 : h3.toInt = x2.toInt) (hG : V rh = some (.inl (43, 36, .inl G))) (hz : ∀ j : Nat, j < 36 → (G j).toInt = 0) : jpl V x m := by
  obtain rfl := jI_inj.mp e1
  obtain rfl := jI_inj.mp e2
  obtain rfl := jI_inj.mp e3
  obtain rfl := jI_inj.mp e4
  obtain ⟨xs, q1, q2⟩ := r1
  obtain ⟨ms, q3, q4⟩ := r2
  refine ⟨xs, ms, pl, rh, _, _, op, G, q1, q2, q3, q4, c1, c2, c3, m1, m2, hG, hb, fun n => (hbits n).trans ⟨fun ⟨a, b, q, e⟩ => ⟨a, b, q, e, hz _ ?_⟩, fun ⟨a, b, q, e, _⟩ => ⟨a, b, q, e⟩⟩⟩
  have h5 := Nat.mul_le_mul (show w3.toInt.toNat ≤ 6 by omega) (show b ≤ 5 by omega)
  omega
theorem jcell_nat {x y w : Int} (hx : 0 ≤ x) (hy : 0 ≤ y) (hw : 0 ≤ w) : (x + w * y).toNat = x.toNat + w.toNat * y.toNat := by
  rw [Int.toNat_add hx (Int.mul_nonneg hw hy), Int.toNat_mul hw hy]
theorem jpl_bit {op : Int64} {H : Nat → Int32} {w h x y : Int} (hb : ∀ n : Nat, jbt op n = true ↔ ∃ a b : Nat, ((a : Int) < w ∧ (b : Int) < h) ∧ n = 9 + a + 8 * b ∧ (H (a + w.toNat * b)).toInt = 0) (hw : w ≤ 6) (hx : 0 ≤ x) (hx2 : x < w) (hy : 0 ≤ y) (hy2 : y < h) : jbt op (9 + x + 8 * y).toNat = true ↔ (H (x + w * y).toNat).toInt = 0 := by
  rw [hb, jcell_nat hx hy (by omega)]
  constructor
  · rintro ⟨a, b, q, e, z⟩
    have h1 : a = x.toNat := by omega
    have h2 : b = y.toNat := by omega
    subst h1
    subst h2
    exact z
  · intro z
    exact ⟨x.toNat, y.toNat, by omega, by omega, z⟩
theorem jbit_eq {op : Int64} {N : Nat} {a x : Int} (hb : jbt op N = true ↔ a = 0) (h : a = x) : jbt op N = decide (x = 0) := by
  by_cases c : x = 0
  · rw [decide_eq_true c]
    exact hb.mpr (h.trans c)
  · rw [decide_eq_false c]
    exact Bool.eq_false_iff.mpr (fun q => c (h ▸ hb.mp q))
theorem jbit_ne {op : Int64} {N : Nat} {a x : Int} (hb : jbt op N = true ↔ a = 0) (ha : 0 ≤ a) (ha1 : a ≤ 1) (hx : 0 ≤ x) (hx1 : x ≤ 1) (h : ¬ a = x) : jbt op N = decide (x = 1) := by
  by_cases c : x = 1
  · rw [decide_eq_true c]
    exact hb.mpr (by omega)
  · rw [decide_eq_false c]
    exact Bool.eq_false_iff.mpr (fun q => by have q2 := hb.mp q; omega)
theorem jpl.turned {V : jH} {x m pl rh : Nat} {x1 x2 x3 w h : Int32} {op op2 : Int64} {H G : Nat → Int32} (r1 : jfR V x 4 6 pl) (r2 : jfR V m 5 25 rh) (c1 : jfI V pl 0 1 w) (c2 : jfI V pl 0 2 h) (c3 : jfL V pl 0 3 op2) (m1 : jfI V m 5 23 w) (m2 : jfI V m 5 24 h) (hG : V rh = some (.inl (43, 36, .inl G))) (hr : 2 ≤ w.toInt ∧ w.toInt ≤ 6 ∧ 2 ≤ h.toInt ∧ h.toInt ≤ 6) (hb : ∀ n : Nat, jbt op n = true ↔ ∃ a b : Nat, ((a : Int) < w.toInt ∧ (b : Int) < h.toInt) ∧ n = 9 + a + 8 * b ∧ (H (a + w.toInt.toNat * b)).toInt = 0) (hi : 0 ≤ x1.toInt ∧ x1.toInt < w.toInt ∧ 0 ≤ x2.toInt ∧ x2.toInt < h.toInt) (hx0 : 0 ≤ x3.toInt) (hx1 : x3.toInt ≤ 1) (hd : jbt op (9 + x1.toInt + 8 * x2.toInt).toNat = decide (x3.toInt = 1)) (ht : ∀ n : Nat, jbt op2 n = (jbt op n ^^ decide (n = (9 + x1.toInt + 8 * x2.toInt).toNat))) (hk : G (x1.toInt + w.toInt * x2.toInt).toNat = x3) (ho : ∀ j : Nat, j ≠ (x1.toInt + w.toInt * x2.toInt).toNat → G j = H j) : jpl V x m := by
  obtain ⟨xs, q1, q2⟩ := r1
  obtain ⟨ms, q3, q4⟩ := r2
  refine ⟨xs, ms, pl, rh, _, _, op2, G, q1, q2, q3, q4, c1, c2, c3, m1, m2, hG, hr, fun n => ?_⟩
  have hcn := jcell_nat hi.1 hi.2.2.1 (show 0 ≤ w.toInt by omega)
  rw [ht n]
  by_cases c : n = (9 + x1.toInt + 8 * x2.toInt).toNat
  · rw [decide_eq_true c, c, hd]
    constructor
    · intro z
      refine ⟨x1.toInt.toNat, x2.toInt.toNat, by omega, by omega, ?_⟩
      rw [← hcn, hk]
      by_cases e : x3.toInt = 1
      · rw [decide_eq_true e] at z; cases z
      · omega
    · rintro ⟨a, b, q, e, z⟩
      have h1 : a = x1.toInt.toNat := by omega
      have h2 : b = x2.toInt.toNat := by omega
      subst h1
      subst h2
      rw [← hcn, hk] at z
      rw [decide_eq_false (by omega)]
      rfl
  · rw [decide_eq_false c, Bool.xor_false, hb n]
    have hne : ∀ a b : Nat, ((a : Int) < w.toInt ∧ (b : Int) < h.toInt) → n = 9 + a + 8 * b → G (a + w.toInt.toNat * b) = H (a + w.toInt.toNat * b) := fun a b q e => ho _ (fun z => by
      rw [hcn] at z
      obtain ⟨h1, h2⟩ := jcell_inj (by omega) (by omega) z
      omega)
    exact ⟨fun ⟨a, b, q, e, z⟩ => ⟨a, b, q, e, by rw [hne a b q e]; exact z⟩, fun ⟨a, b, q, e, z⟩ => ⟨a, b, q, e, by rw [← hne a b q e]; exact z⟩⟩
/-! all that class and reference hold alike -/
def jRL (V : jH) (x m : Nat) : Prop := jrl V x m ∧ jpl V x m
theorem jRL.own {E : List jKd} {V V' : jH} {x m : Nat} (h : jRL V x m) (he : jeff E V V') (h0 : (.inr 0 : jKd) ∉ E) (h4 : (.inr 4 : jKd) ∉ E) (h5 : (.inr 5 : jKd) ∉ E) (h43 : (.inl 43 : jKd) ∉ E) : jRL V' x m := ⟨h.1.own he h4 h5, h.2.own he h0 h5 h43⟩
theorem jRL.ways {E : List jKd} {V V' : jH} {x m : Nat} (h : jRL V x m) (he : jeff E V V') (hk : jkc 0 [1, 2, 3] V V') (h4 : (.inr 4 : jKd) ∉ E) (h5 : (.inr 5 : jKd) ∉ E) (h43 : (.inl 43 : jKd) ∉ E) : jRL V' x m := ⟨h.1.own he h4 h5, h.2.ways he hk h5 h43⟩
theorem jRL.ref {E : List jKd} {ks : List Nat} {V V' : jH} {x m : Nat} (h : jRL V x m) (he : jeff E V V') (h0 : (.inr 0 : jKd) ∉ E) (h4 : (.inr 4 : jKd) ∉ E) (hk : jkc 5 ks V V') (hs : ∀ k ∈ [0, 23, 24], k ∈ ks) (h43 : (.inl 43 : jKd) ∉ E) : jRL V' x m := ⟨h.1.ref he h4 hk (hs 0 (by decide)), h.2.ref he h0 hk (fun k hk2 => hs k (List.mem_cons_of_mem _ hk2)) h43⟩
theorem jbw (v : Int32) : ∃ w : Int32, 0 ≤ w.toInt ∧ w.toInt ≤ 1 ∧ (v = 0 → w = 0) ∧ (¬ v = 0 → w = 1) := by
  by_cases c : v = 0
  · exact ⟨0, by decide, by decide, fun _ => rfl, fun h => absurd c h⟩
  · exact ⟨1, by decide, by decide, fun h => absurd h c, fun _ => rfl⟩
/-- the pieces of the boards' relation -/
theorem jpl.parts {V : jH} {x m : Nat} (hj : jpl V x m) : ∃ (pl rh : Nat) (w h : Int32) (op : Int64) (H : Nat → Int32), jfR V x 4 6 pl ∧ jfR V m 5 25 rh ∧ jfI V pl 0 1 w ∧ jfI V pl 0 2 h ∧ jfL V pl 0 3 op ∧ jfI V m 5 23 w ∧ jfI V m 5 24 h ∧ V rh = some (.inl (43, 36, .inl H)) ∧ (2 ≤ w.toInt ∧ w.toInt ≤ 6 ∧ 2 ≤ h.toInt ∧ h.toInt ≤ 6) ∧ ∀ n : Nat, jbt op n = true ↔ ∃ a b : Nat, ((a : Int) < w.toInt ∧ (b : Int) < h.toInt) ∧ n = 9 + a + 8 * b ∧ (H (a + w.toInt.toNat * b)).toInt = 0 := by
  obtain ⟨xs, ms, pl, rh, w, h, op, H, q1, q2, q3, q4, q5, q6, q7, q8, q9, q10, q11, q12⟩ := hj
  exact ⟨pl, rh, w, h, op, H, ⟨_, q1, q2⟩, ⟨_, q3, q4⟩, q5, q6, q7, q8, q9, q10, q11, q12⟩
theorem jcell_lt {x y w h : Int} (hx : 0 ≤ x) (hx2 : x < w) (hy : 0 ≤ y) (hy2 : y < h) (hw : w ≤ 6) (hh : h ≤ 6) : (x + w * y).toNat < 36 := by
  rw [jcell_nat hx hy (by omega)]
  have h5 := Nat.mul_le_mul (show w.toNat ≤ 6 by omega) (show y.toNat ≤ 5 by omega)
  omega
theorem jpl_cnt {op : Int64} {H : Nat → Int32} {w h : Int} (hr : 2 ≤ w ∧ w ≤ 6 ∧ 2 ≤ h ∧ h ≤ 6) (hb : ∀ n : Nat, jbt op n = true ↔ ∃ a b : Nat, ((a : Int) < w ∧ (b : Int) < h) ∧ n = 9 + a + 8 * b ∧ (H (a + w.toNat * b)).toInt = 0) (hH : ∀ k, k < 36 → 0 ≤ (H k).toInt ∧ (H k).toInt ≤ 1) : ((jsum (fun n => (jbt op n).toNat) 64 : Nat) : Int) = ((jcn 1 H (w * h).toNat : Nat) : Int) := by
  have h1 := Nat.mul_le_mul (show w.toNat ≤ 6 by omega) (show h.toNat ≤ 6 by omega)
  rw [jopen_sum (w := w.toNat) (h := h.toNat) (by omega) (by omega) (fun k hk => hH k (by omega)) (fun n => (hb n).trans ⟨fun ⟨a, b, q, e⟩ => ⟨a, b, by omega, e⟩, fun ⟨a, b, q, e⟩ => ⟨a, b, by omega, e⟩⟩), Int.toNat_mul (by omega) (by omega)]
theorem jnI_eq {x : Int32} {j k : Nat} (h1 : x = nI k) (h2 : x = nI j) (hk : k < 4) (hj : j < 4) : k = j := by
  have h3 : x.toNatClampNeg = k := by rw [h1]; exact nI_clamp (by omega)
  have h4 : x.toNatClampNeg = j := by rw [h2]; exact nI_clamp (by omega)
  omega
theorem jg_le {g : Nat → Nat} {G j : Nat} (h : g 0 + g 1 + g 2 + g 3 ≤ G) (hj : j < 4) : g j ≤ G := by
  rcases (show j = 0 ∨ j = 1 ∨ j = 2 ∨ j = 3 by omega) with rfl | rfl | rfl | rfl <;> omega
theorem jg_none {V : jH} {f : Nat → Option Nat} {g : Nat → Nat} {G j : Nat} (hg : ∀ j, j < 4 → jw9 V f j (g j)) (h : g 0 + g 1 + g 2 + g 3 ≤ G) (hj : j < 4) (hf : f j = none) : 9 ≤ G := by
  have h1 := jg_le h hj
  rcases hg j hj with ⟨-, q2⟩ | ⟨t2, rc2, ts3, h3, e1, -⟩
  · omega
  · rw [hf] at e1; cases e1
theorem jg_some {V : jH} {f : Nat → Option Nat} {g : Nat → Nat} {G j t rc x : Nat} {ts : List Value} {h : Nat → Int32} (hg : ∀ j, j < 4 → jw9 V f j (g j)) (hs : g 0 + g 1 + g 2 + g 3 ≤ G) (hj : j < 4) (hf : f j = some t) (ht : V t = some (.inr (2, ts))) (hr : ts[9]? = some (.ref rc)) (hrc : V rc = some (.inl (9, 7, .inl h))) (hx : x < 7) (hm : (h x).toInt = -1) : 1 ≤ G := by
  have h1 := jg_le hs hj
  have h2 := jcn_lt hm 7 hx
  rcases hg j hj with ⟨q1, q2⟩ | ⟨t2, rc2, ts3, h3, e1, e2, e3, e4, e5⟩
  · omega
  · have q1 := Option.some.inj (hf.symm.trans e1)
    subst q1
    cases ht.symm.trans e2
    cases hr.symm.trans e3
    cases hrc.symm.trans e4
    omega
abbrev mL_law : jM := (yL_law, cL_law, 4, some .boolean)
