/-! ways of the reference: places by numbers, their bits -/
def jpb9 (w p : Nat) : Nat := 9 + p % w + 8 * (p / w)
theorem jpb_inj {w p q : Nat} (h0 : 0 < w) (h8 : w ≤ 8) (e : jpb9 w p = jpb9 w q) : p = q := by
  unfold jpb9 at e
  have h1 := Nat.mod_lt p h0
  have h2 := Nat.mod_lt q h0
  have a : p % w = q % w ∧ p / w = q / w := by omega
  have e1 := Nat.div_add_mod p w
  rw [a.1, a.2, Nat.div_add_mod q w] at e1
  exact e1.symm
theorem jpb_0 (w : Nat) : jpb9 w 0 = 9 := by unfold jpb9; rw [Nat.zero_mod, Nat.zero_div]
def jopr (op : Nat → Bool) (w h : Nat) (H : Nat → Int32) : Prop := ∀ n : Nat, op n = true ↔ ∃ a b : Nat, (a < w ∧ b < h) ∧ n = 9 + a + 8 * b ∧ (H (a + w * b)).toInt = 0
theorem jcell_e {w : Int} {a b : Nat} (h : 0 ≤ w) : ((a : Int) + w * (b : Int)).toNat = a + w.toNat * b := by
  rw [show (a : Int) + w * (b : Int) = ((a + w.toNat * b : Nat) : Int) by rw [Int.natCast_add, Int.natCast_mul, Int.toNat_of_nonneg h]]
  exact Int.toNat_natCast _
theorem jpb_xy {w a b : Nat} (ha : a < w) : jpb9 w (a + w * b) = 9 + a + 8 * b := by
  unfold jpb9
  rw [Nat.add_mul_mod_self_left, Nat.mod_eq_of_lt ha, Nat.add_mul_div_left _ _ (by omega), Nat.div_eq_of_lt ha, Nat.zero_add]
theorem jpb_int {w p : Int} (h0 : 0 ≤ p) (hw : 0 ≤ w) : ((jpb9 w.toNat p.toNat : Nat) : Int) = 9 + p % w + 8 * (p / w) := by
  have e1 : ((p.toNat % w.toNat : Nat) : Int) = p % w := by rw [Int.natCast_emod, Int.toNat_of_nonneg h0, Int.toNat_of_nonneg hw]
  have e2 : ((p.toNat / w.toNat : Nat) : Int) = p / w := by rw [Int.natCast_ediv, Int.toNat_of_nonneg h0, Int.toNat_of_nonneg hw]
  unfold jpb9
  omega
theorem jdk_xy {m d X Y x y : Int} {n : Nat} (hn : (n : Int) = 9 + x + 8 * y) (h0 : 0 ≤ x) (h1 : 0 ≤ y) (hd0 : 0 ≤ d) (hd : d ≤ 3) (hX : X = x + jsx 0 d) (hY : Y = y + jsy 0 d 0) : ((jdk n d.toNat : Nat) : Int) = 9 + X + 8 * Y := by
  subst hX
  subst hY
  unfold jdk
  rcases (show d = 0 ∨ d = 1 ∨ d = 2 ∨ d = 3 by omega) with e | e | e | e <;> subst e
  · rw [if_pos (by decide), show jsx 0 0 = 1 by decide, show jsy 0 0 0 = 0 by decide]; omega
  · rw [if_neg (by decide), if_pos (by decide), show jsx 0 1 = 0 by decide, show jsy 0 1 0 = 1 by decide]; omega
  · rw [if_neg (by decide), if_neg (by decide), if_pos (by decide), show jsx 0 2 = -1 by decide, show jsy 0 2 0 = 0 by decide]; omega
  · rw [if_neg (by decide), if_neg (by decide), if_neg (by decide), show jsx 0 3 = 0 by decide, show jsy 0 3 0 = -1 by decide]; omega
theorem jnxt {op : Nat → Bool} {w h p d X Y : Int} {H : Nat → Int32} (ho : jopr op w.toNat h.toNat H) (hw : 2 ≤ w) (hw6 : w ≤ 6) (hh : 2 ≤ h) (hp0 : 0 ≤ p) (hp : p < w * h) (hd0 : 0 ≤ d) (hd : d ≤ 3) (hX : X = p % w + jsx 0 d) (hY : Y = p / w + jsy 0 d 0) :
    ((0 ≤ X ∧ X < w ∧ 0 ≤ Y ∧ Y < h ∧ (H (X + w * Y).toNat).toInt = 0) → 0 ≤ X + w * Y ∧ X + w * Y < w * h ∧ op (jdk (jpb9 w.toNat p.toNat) d.toNat) = true ∧ jpb9 w.toNat (X + w * Y).toNat = jdk (jpb9 w.toNat p.toNat) d.toNat)
    ∧ (¬ (0 ≤ X ∧ X < w ∧ 0 ≤ Y ∧ Y < h ∧ (H (X + w * Y).toNat).toInt = 0) → op (jdk (jpb9 w.toNat p.toNat) d.toNat) = false) := by
  have hr0 := Int.emod_nonneg p (show w ≠ 0 by omega)
  have hr1 := Int.emod_lt_of_pos p (show 0 < w by omega)
  have hq0 : 0 ≤ p / w := Int.ediv_nonneg hp0 (by omega)
  have bx := jsx_b 0 d
  have hK := jdk_xy (m := 0) (jpb_int hp0 (show 0 ≤ w by omega)) hr0 hq0 hd0 hd hX hY
  constructor
  · rintro ⟨x0, x1, y0, y1, hH⟩
    obtain ⟨a, ea⟩ := Int.eq_ofNat_of_zero_le x0
    obtain ⟨b, eb⟩ := Int.eq_ofNat_of_zero_le y0
    have e := jcell_e (a := a) (b := b) (show 0 ≤ w by omega)
    rw [ea, eb] at hH hK ⊢
    rw [ea] at x1
    rw [eb] at y1
    rw [e] at hH ⊢
    have ha : a < w.toNat := by omega
    have hb : b < h.toNat := by omega
    have q := Int.mul_le_mul_of_nonneg_left (show (b : Int) + 1 ≤ h by omega) (show 0 ≤ w by omega)
    rw [Int.mul_add, Int.mul_one] at q
    have q0 := Int.mul_nonneg (show 0 ≤ w by omega) (show (0 : Int) ≤ (b : Int) by omega)
    have hk : jdk (jpb9 w.toNat p.toNat) d.toNat = 9 + a + 8 * b := by omega
    exact ⟨by omega, by omega, (ho _).mpr ⟨a, b, ⟨ha, hb⟩, hk, hH⟩, (jpb_xy ha).trans hk.symm⟩
  · intro hn
    refine Bool.eq_false_iff.mpr (fun z => hn ?_)
    obtain ⟨a, b, ⟨ha, hb⟩, hk, hH⟩ := (ho _).mp z
    have e := jcell_e (a := a) (b := b) (show 0 ≤ w by omega)
    have ex : X = (a : Int) := by omega
    have ey : Y = (b : Int) := by omega
    rw [ex, ey, e]
    exact ⟨by omega, by omega, by omega, by omega, hH⟩
theorem jgoal {w h p : Int} (hw : 2 ≤ w) (hw6 : w ≤ 6) (hh : 2 ≤ h) (hp0 : 0 ≤ p) : p = w * h - 1 ↔ jpb9 w.toNat p.toNat = (w + 8 * h).toNat := by
  have q := Int.mul_nonneg (show 0 ≤ w by omega) (show 0 ≤ h - 1 by omega)
  have e9 : w * h = w * (h - 1) + w := by rw [Int.mul_sub, Int.mul_one]; omega
  have e : jpb9 w.toNat (w * h - 1).toNat = (w + 8 * h).toNat := by
    rw [show (w * h - 1).toNat = (w - 1).toNat + w.toNat * (h - 1).toNat by
      rw [← jcell_e (a := (w - 1).toNat) (b := (h - 1).toNat) (show 0 ≤ w by omega), Int.toNat_of_nonneg (show 0 ≤ w - 1 by omega), Int.toNat_of_nonneg (show 0 ≤ h - 1 by omega)]
      exact congrArg Int.toNat (by omega), jpb_xy (by omega)]
    omega
  constructor
  · intro c
    rw [c]
    exact e
  · intro c
    have z := jpb_inj (show 0 < w.toNat by omega) (by omega) (c.trans e.symm)
    omega
/-- the way's places -/
def jpL (w : Nat) (W : Nat → Int32) : Nat → List Nat
  | 0 => []
  | k + 1 => jpb9 w (W k).toInt.toNat :: jpL w W k
theorem jpL_len (w : Nat) (W : Nat → Int32) : ∀ k : Nat, (jpL w W k).length = k
  | 0 => rfl
  | k + 1 => congrArg (· + 1) (jpL_len w W k)
theorem jpL_congr {w : Nat} {W W' : Nat → Int32} : ∀ k : Nat, (∀ i : Nat, i < k → W i = W' i) → jpL w W k = jpL w W' k
  | 0, _ => rfl
  | k + 1, h => by
    show jpb9 w (W k).toInt.toNat :: jpL w W k = jpb9 w (W' k).toInt.toNat :: jpL w W' k
    rw [h k (by omega), jpL_congr k (fun i hi => h i (by omega))]
theorem jpL_mem {w n : Nat} {W : Nat → Int32} : ∀ k : Nat, n ∈ jpL w W k ↔ ∃ i : Nat, i < k ∧ n = jpb9 w (W i).toInt.toNat
  | 0 => ⟨fun z => absurd z List.not_mem_nil, fun ⟨_, h, _⟩ => absurd h (Nat.not_lt_zero _)⟩
  | k + 1 => by
    show n ∈ jpb9 w (W k).toInt.toNat :: jpL w W k ↔ _
    rw [List.mem_cons, jpL_mem k]
    constructor
    · rintro (z | ⟨i, hi, z⟩)
      · exact ⟨k, by omega, z⟩
      · exact ⟨i, by omega, z⟩
    · rintro ⟨i, hi, z⟩
      by_cases c : i = k
      · subst c; exact Or.inl z
      · exact Or.inr ⟨i, by omega, z⟩
/-- which places the way has come to -/
def jgn (w : Nat) (A : Int) (G W : Nat → Int32) (j : Int) : Prop := ∀ q : Nat, (q : Int) < A → ((G q).toInt = 0 ↔ ¬ jpb9 w q ∈ jpL w W (j + 1).toNat)
theorem jgn.init {w : Nat} {A : Int} {G W : Nat → Int32} (hw : 0 < w) (hw8 : w ≤ 8) (h0 : (W 0).toInt = 0) (hg : ¬ (G 0).toInt = 0) (hr : ∀ q : Nat, q ≠ 0 → (q : Int) < A → (G q).toInt = 0) : jgn w A G W 0 := fun q hq => by
  rw [show ((0 : Int) + 1).toNat = 1 by decide, jpL_mem]
  constructor
  · rintro z ⟨i, hi, e⟩
    rw [show i = 0 by omega, h0] at e
    have e2 := jpb_inj hw hw8 e
    subst e2
    exact hg z
  · intro z
    refine hr q (fun c => z ⟨0, by decide, ?_⟩) hq
    rw [c, h0]
    rfl
theorem jgn.down {w : Nat} {A j : Int} {G G' W W' : Nat → Int32} {y : Int32} (h : jgn w A G W j) (hw : 0 < w) (hw8 : w ≤ 8) (hj : 0 ≤ j) (hy0 : 0 ≤ y.toInt) (hW : W' (j + 1).toNat = y) (hWo : ∀ i : Nat, i ≠ (j + 1).toNat → W' i = W i) (hG : ¬ (G' y.toInt.toNat).toInt = 0) (hGo : ∀ i : Nat, i ≠ y.toInt.toNat → G' i = G i) : jgn w A G' W' (j + 1) := fun q hq => by
  rw [show (j + 1 + 1).toNat = (j + 1).toNat + 1 by omega]
  show _ ↔ ¬ jpb9 w q ∈ jpb9 w (W' (j + 1).toNat).toInt.toNat :: jpL w W' (j + 1).toNat
  rw [List.mem_cons, hW, jpL_congr (W' := W) _ (fun i hi => hWo i (by omega))]
  by_cases c : q = y.toInt.toNat
  · subst c
    exact ⟨fun z => absurd z hG, fun z => absurd (Or.inl rfl) z⟩
  · rw [hGo q c, h q hq]
    exact ⟨fun z w1 => w1.elim (fun e => c (jpb_inj hw hw8 e)) z, fun z w1 => z (Or.inr w1)⟩
theorem jgn.up {w : Nat} {A j : Int} {G G' W : Nat → Int32} {k : Nat} (h : jgn w A G W j) (hw : 0 < w) (hw8 : w ≤ 8) (hj : 0 ≤ j) (hk : k = (W j.toNat).toInt.toNat) (hd : ∀ i : Nat, (i : Int) < j → ¬ (W i).toInt.toNat = (W j.toNat).toInt.toNat) (hG : (G' k).toInt = 0) (hGo : ∀ i : Nat, i ≠ k → G' i = G i) : jgn w A G' W (j - 1) := fun q hq => by
  have z9 := h q hq
  rw [show (j + 1).toNat = j.toNat + 1 by omega, jpL_mem] at z9
  rw [show (j - 1 + 1).toNat = j.toNat by omega, jpL_mem]
  by_cases c : q = k
  · subst c
    refine ⟨fun _ => ?_, fun _ => hG⟩
    rintro ⟨i, hi, e⟩
    have e2 := jpb_inj hw hw8 e
    exact hd i (by omega) (e2.symm.trans hk)
  · rw [hGo q c, z9]
    constructor
    · rintro z ⟨i, hi, e⟩
      exact z ⟨i, by omega, e⟩
    · rintro z ⟨i, hi, e⟩
      by_cases d : i = j.toNat
      · subst d
        exact c ((jpb_inj hw hw8 e).trans hk.symm)
      · exact z ⟨i, by omega, e⟩
/-- the numbers that the reference counts -/
def jwq (a : jW9) (rc : Int) (fw : Int32) (WB : Nat → Int32) : Prop := (rc = (a.1 : Int) ∧ fw.toInt = (a.2.2.2 : Int)) ∧ (∀ k : Nat, k < 36 → (WB k).toInt = (a.2.1 k : Int)) ∧ (a.2.2.2 ≤ a.1 ∧ ∀ k : Nat, k < 36 → a.2.1 k ≤ a.1)
theorem jwq.no {a : jW9} {rc : Int} {fw : Int32} {WB : Nat → Int32} {GL NO : Nat} {m : List Nat} (h : jwq a rc fw WB) (hg : ¬ m.headD 0 = GL) : jwq (jws GL NO m a) (rc + 1) fw WB := by
  obtain ⟨⟨a1, a3⟩, a4, a6, a7⟩ := h
  unfold jws
  rw [if_neg hg]
  refine ⟨⟨?_, a3⟩, a4, Nat.le_succ_of_le a6, fun k hk => Nat.le_succ_of_le (a7 k hk)⟩
  show rc + 1 = ((a.1 + 1 : Nat) : Int)
  omega
theorem jwq.yes {a : jW9} {rc : Int} {fw fw2 : Int32} {WB WB2 : Nat → Int32} {GL NO : Nat} {m : List Nat} {j : Nat} (h : jwq a rc fw WB) (hg : m.headD 0 = GL) (hj : m.length = j + 1) (hj36 : j < 36) (e3 : (fw2.toInt = fw.toInt + 1 ∧ m.length = NO) ∨ (fw2.toInt = fw.toInt ∧ ¬ m.length = NO)) (e4 : (WB2 j).toInt = (WB j).toInt + 1) (e5 : ∀ i : Nat, i ≠ j → WB2 i = WB i) : jwq (jws GL NO m a) (rc + 1) fw2 WB2 := by
  obtain ⟨⟨a1, a3⟩, a4, a6, a7⟩ := h
  have hk : m.length - 1 = j := by omega
  unfold jws
  rw [if_pos hg, hk]
  have b4 : ∀ k : Nat, k < 36 → (WB2 k).toInt = (((if k = j then a.2.1 k + 1 else a.2.1 k) : Nat) : Int) ∧ (if k = j then a.2.1 k + 1 else a.2.1 k) ≤ a.1 + 1 := fun k hk => by
    have q1 := a4 k hk
    have q2 := a7 k hk
    by_cases c : k = j
    · subst c
      rw [if_pos rfl]
      exact ⟨by omega, by omega⟩
    · rw [if_neg c, e5 k c]
      exact ⟨q1, by omega⟩
  refine ⟨⟨?_, ?_⟩, fun k hk => (b4 k hk).1, ?_, fun k hk => (b4 k hk).2⟩
  · show rc + 1 = ((a.1 + 1 : Nat) : Int)
    omega
  · show fw2.toInt = (((if m.length = NO then a.2.2.2 + 1 else a.2.2.2) : Nat) : Int)
    rcases e3 with ⟨q1, q2⟩ | ⟨q1, q2⟩
    · rw [if_pos q2]; omega
    · rw [if_neg q2]; omega
  · show (if m.length = NO then a.2.2.2 + 1 else a.2.2.2) ≤ a.1 + 1
    by_cases c : m.length = NO
    · rw [if_pos c]; omega
    · rw [if_neg c]; omega
/-- where the reference stands -/
def jwS (op : Nat → Bool) (GL NO w : Nat) (j rc : Int) (fw : Int32) (WB W T : Nat → Int32) : Prop := ∃ b : jW9, jgb 4 (jch op) (jws GL NO) 36 (fun i => jpL w W (i + 1)) (fun k => (T k).toInt) (j + 1).toNat b = jWY op GL NO ∧ jwq b rc fw WB
section JWS
variable {op : Nat → Bool} {GL NO w : Nat} {j rc : Int} {fw : Int32} {WB W T T' : Nat → Int32}
theorem jwS.num (h : jwS op GL NO w j rc fw WB W T) : 0 ≤ rc ∧ 0 ≤ fw.toInt ∧ fw.toInt ≤ rc ∧ ∀ k : Nat, k < 36 → 0 ≤ (WB k).toInt ∧ (WB k).toInt ≤ rc := by
  obtain ⟨b, -, ⟨⟨a1, a3⟩, a4, a6, a7⟩⟩ := h
  refine ⟨by omega, by omega, by omega, fun k hk => ?_⟩
  have q1 := a4 k hk
  have q2 := a7 k hk
  omega
theorem jwS.init (hW : (W 0).toInt = 0) (hT : (T 0).toInt = -1) (hf : fw.toInt = 0) (hWB : ∀ k : Nat, k < 36 → (WB k).toInt = 0) : jwS op GL NO w 0 0 fw WB W T := by
  refine ⟨jW0, ?_, ⟨⟨rfl, hf⟩, hWB, Nat.le_refl _, fun _ _ => Nat.le_refl _⟩⟩
  refine jgm_init (D := 4) (ch := jch op) (s := jws GL NO) (n := 36) (P := fun i => jpL w W (i + 1)) (R := fun k => (T k).toInt) (l := [9]) (by decide) ?_ hT
  show [jpb9 w (W 0).toInt.toNat] = [9]
  rw [hW]
  exact congrArg (fun x => [x]) (jpb_0 w)
theorem jwS.last (h : jwS op GL NO w j rc fw WB W T) (hj : j = -1) : jwq (jWY op GL NO) rc fw WB := by
  obtain ⟨b, hb, hq⟩ := h
  subst hj
  rw [← hb]
  exact hq
theorem jwS.get (h : jwS op GL NO w j rc fw WB W T) (hj : 0 ≤ j) : ∃ b : jW9, jgm 4 (jch op) (jws GL NO) 36 (fun i => jpL w W (i + 1)) (fun k => (T k).toInt) j.toNat b = jWY op GL NO ∧ jwq b rc fw WB := by
  obtain ⟨b, hb, hq⟩ := h
  rw [show (j + 1).toNat = j.toNat + 1 by omega] at hb
  exact ⟨b, hb, hq⟩
theorem jwS.put {b : jW9} (hj : 0 ≤ j) (hb : jgm 4 (jch op) (jws GL NO) 36 (fun i => jpL w W (i + 1)) (fun k => (T k).toInt) j.toNat b = jWY op GL NO) (hq : jwq b rc fw WB) : jwS op GL NO w j rc fw WB W T := by
  refine ⟨b, ?_, hq⟩
  rw [show (j + 1).toNat = j.toNat + 1 by omega]
  exact hb
theorem jwS.out (h : jwS op GL NO w j rc fw WB W T) (hj : 0 ≤ j) (h4 : (T j.toNat).toInt + 1 = 4) (ho : ∀ i : Nat, i ≠ j.toNat → T' i = T i) : jwS op GL NO w (j - 1) rc fw WB W T' := by
  obtain ⟨b, hb, hq⟩ := h.get hj
  refine ⟨b, ?_, hq⟩
  rw [show (j - 1 + 1).toNat = j.toNat by omega, ← hb]
  exact (jgm_out (R := fun k => (T k).toInt) (R' := fun k => (T' k).toInt) (by show (T j.toNat).toInt + 1 = ((4 : Nat) : Int); omega) (fun i hi => congrArg Int32.toInt (ho i (by omega)))).symm
theorem jwS.same (h : jwS op GL NO w j rc fw WB W T) (hj : 0 ≤ j) (h0 : 0 ≤ (T j.toNat).toInt + 1) (h3 : (T j.toNat).toInt + 1 < 4) (hT : (T' j.toNat).toInt = (T j.toNat).toInt + 1) (ho : ∀ i : Nat, i ≠ j.toNat → T' i = T i) (hin : jch op (jpL w W (j.toNat + 1)) ((T j.toNat).toInt + 1).toNat = none) : jwS op GL NO w j rc fw WB W T' := by
  obtain ⟨b, hb, hq⟩ := h.get hj
  refine jwS.put hj ?_ hq
  rw [← hb]
  exact (jgm_same (R := fun k => (T k).toInt) (R' := fun k => (T' k).toInt) h0 (by show (T j.toNat).toInt + 1 < ((4 : Nat) : Int); omega) (fun i hi => congrArg Int32.toInt (ho i (by omega))) hT hin).symm
theorem jwS.down {W' : Nat → Int32} {fw2 : Int32} {WB2 : Nat → Int32} {m : List Nat} (h : jwS op GL NO w j rc fw WB W T) (hj : 0 ≤ j) (h0 : 0 ≤ (T j.toNat).toInt + 1) (h3 : (T j.toNat).toInt + 1 < 4) (hT : (T' j.toNat).toInt = (T j.toNat).toInt + 1) (ho : ∀ i : Nat, i < j.toNat → T' i = T i) (hT2 : (T' (j.toNat + 1)).toInt = -1) (hin : jch op (jpL w W (j.toNat + 1)) ((T j.toNat).toInt + 1).toNat = some m) (hn : j + 1 < 36) (hW : ∀ i : Nat, i ≤ j.toNat → W' i = W i) (hW2 : jpL w W' (j.toNat + 2) = m) (hq2 : ∀ b : jW9, jwq b rc fw WB → jwq (jws GL NO m b) (rc + 1) fw2 WB2) : jwS op GL NO w (j + 1) (rc + 1) fw2 WB2 W' T' := by
  obtain ⟨b, hb, hq⟩ := h.get hj
  refine jwS.put (by omega) ?_ (hq2 b hq)
  rw [show (j + 1).toNat = j.toNat + 1 by omega, ← hb]
  exact (jgm_down (P := fun i => jpL w W (i + 1)) (P' := fun i => jpL w W' (i + 1)) (R := fun k => (T k).toInt) (R' := fun k => (T' k).toInt) h0 (by show (T j.toNat).toInt + 1 < ((4 : Nat) : Int); omega) (fun i hi => congrArg Int32.toInt (ho i hi)) hT hin (by omega) (fun i hi => jpL_congr _ (fun q hq => hW q (by omega))) hW2 hT2).symm
theorem jwS.spent {m : List Nat} (h : jwS op GL NO w j rc fw WB W T) (hj : 0 ≤ j) (hR : ∀ i : Nat, i ≤ j.toNat → -1 ≤ (T i).toInt) (h3 : (T j.toNat).toInt + 1 < 4) (hin : jch op (jpL w W (j.toNat + 1)) ((T j.toNat).toInt + 1).toNat = some m) (hn : j + 1 < 36) : rc + 1 ≤ ((jWY op GL NO).1 : Int) := by
  obtain ⟨b, hb, ⟨⟨a1, -⟩, -⟩⟩ := h.get hj
  have hj0 := hR j.toNat (Nat.le_refl _)
  have q := jgm_down (P := fun i => jpL w W (i + 1)) (P' := fun i => if i = j.toNat + 1 then m else jpL w W (i + 1)) (R := fun k => (T k).toInt) (R' := fun k => if k = j.toNat then (T k).toInt + 1 else if k = j.toNat + 1 then -1 else (T k).toInt) (s := jws GL NO) (n := 36) (a := b) (D := 4) (j := j.toNat) (m := m) (show 0 ≤ (T j.toNat).toInt + 1 by omega) (by show (T j.toNat).toInt + 1 < ((4 : Nat) : Int); omega) (fun i hi => by show (if i = j.toNat then _ else if i = j.toNat + 1 then _ else _) = _; rw [if_neg (by omega), if_neg (by omega)]) (by show (if j.toNat = j.toNat then _ else _) = _; rw [if_pos rfl]) hin (by omega) (fun i hi => by show (if i = j.toNat + 1 then _ else _) = _; rw [if_neg (by omega)]) (by show (if j.toNat + 1 = j.toNat + 1 then _ else _) = _; rw [if_pos rfl]) (by show (if j.toNat + 1 = j.toNat then _ else if j.toNat + 1 = j.toNat + 1 then _ else _) = _; rw [if_neg (by omega), if_pos rfl])
  have q2 := jgm_le (D := 4) (ch := jch op) (s := jws GL NO) (n := 36) (π := fun a : jW9 => a.1) (fun m a => by show a.1 ≤ (jws GL NO m a).1; rw [jws_1]; omega) (P := fun i => if i = j.toNat + 1 then m else jpL w W (i + 1)) (R := fun k => if k = j.toNat then (T k).toInt + 1 else if k = j.toNat + 1 then -1 else (T k).toInt) (j.toNat + 1) (jws GL NO m b) (fun i hi => by
    show -1 ≤ (if i = j.toNat then (T i).toInt + 1 else if i = j.toNat + 1 then -1 else (T i).toInt)
    by_cases c : i = j.toNat
    · subst c
      rw [if_pos rfl]
      omega
    · rw [if_neg c]
      by_cases d : i = j.toNat + 1
      · rw [if_pos d]
        omega
      · rw [if_neg d]
        exact hR i (by omega))
  rw [← q, hb, jws_1] at q2
  omega
end JWS
/-- what the reference says once it has counted -/
def jrd9 (op : Nat → Bool) (GL NO : Nat) (sp fw : Int32) (WB : Nat → Int32) : Prop := (¬ sp.toInt = 0 ∧ 600000 < (jWY op GL NO).1) ∨ (sp.toInt = 0 ∧ (jWY op GL NO).1 ≤ 600000 ∧ fw.toInt = ((jWY op GL NO).2.2.2 : Int) ∧ ∀ k : Nat, k < 36 → (WB k).toInt = ((jWY op GL NO).2.1 k : Int))
def jrm9 (op : Nat → Bool) (GL NO : Nat) (cv sp fw : Int32) (WB : Nat → Int32) : Prop := ¬ cv.toInt = 0 → jrd9 op GL NO sp fw WB
theorem jsum_mono {t : Nat → Nat} : ∀ {n m : Nat}, n ≤ m → jsum t n ≤ jsum t m := fun {n m} h => by
  obtain ⟨k, rfl⟩ := Nat.exists_eq_add_of_le h
  rw [jsum_add]
  omega
theorem jWY_all {op : Nat → Bool} {GL NO : Nat} : (jWY op GL NO).2.2.1 ≤ (jWY op GL NO).1 :=
  jgy_inv (P := fun a : jW9 => a.2.2.1 ≤ a.1) (I := fun _ => True) (fun _ _ _ _ _ => trivial) (fun m a _ ha => by
    unfold jws
    by_cases c : m.headD 0 = GL
    · rw [if_pos c]; exact Nat.succ_le_succ ha
    · rw [if_neg c]; exact Nat.le_succ_of_le ha) 36 [9] trivial jW0 (Nat.le_refl _)
