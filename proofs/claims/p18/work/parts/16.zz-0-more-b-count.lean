/-! counted: all ways to go on, one after another -/
abbrev jP3 : Type := Int × Int × Int
noncomputable def jif {α : Type} (P : Prop) (a b : α) : α := @ite α P (Classical.propDecidable P) a b
theorem jif_yes {α : Type} {P : Prop} {a b : α} (h : P) : jif P a b = a := @if_pos _ (Classical.propDecidable P) h _ _ _
theorem jif_no {α : Type} {P : Prop} {a b : α} (h : ¬ P) : jif P a b = b := @if_neg _ (Classical.propDecidable P) h _ _ _
/-- f for d = n - c .. n - 1, one after another -/
def jfe {α : Type} (n : Nat) (f : Nat → α → α) : Nat → α → α
  | 0, a => a
  | c + 1, a => jfe n f c (f (n - (c + 1)) a)
theorem jfe_rel {α β : Type} {R : α → β → Prop} {n : Nat} {f : Nat → α → α} {g : Nat → β → β} (h : ∀ d a b, d < n → R a b → R (f d a) (g d b)) : ∀ (c : Nat), c ≤ n → ∀ (a : α) (b : β), R a b → R (jfe n f c a) (jfe n g c b)
  | 0, _, _, _, r => r
  | c + 1, hc, a, b, r => jfe_rel h c (by omega) _ _ (h _ _ _ (by omega) r)
theorem jfe_step {α : Type} {n c d : Nat} {f : Nat → α → α} {a : α} (h : d + (c + 1) = n) : jfe n f (c + 1) a = jfe n f c (f d a) := by
  show jfe n f c (f (n - (c + 1)) a) = _
  rw [show n - (c + 1) = d by omega]
/-- where a step leads -/
def jnx (g d : Int) (p : jP3) : jP3 := (p.1 + jsx g d, p.2.1 + jsy g d (p.1 + p.2.1), p.2.2 + jsz g d)
noncomputable def jcs {α : Type} (g : Int) (r : List jP3 → α → α) (l : List jP3) (d : Nat) (a : α) : α := jif (jnx g d (l.headD (0, 0, 0)) ∈ l) a (r (jnx g d (l.headD (0, 0, 0)) :: l) a)
theorem jcs_yes {α : Type} {g : Int} {r : List jP3 → α → α} {l : List jP3} {d : Nat} {a : α} (h : jnx g d (l.headD (0, 0, 0)) ∈ l) : jcs g r l d a = a := jif_yes h
theorem jcs_no {α : Type} {g : Int} {r : List jP3 → α → α} {l : List jP3} {d : Nat} {a : α} (h : ¬ jnx g d (l.headD (0, 0, 0)) ∈ l) : jcs g r l d a = r (jnx g d (l.headD (0, 0, 0)) :: l) a := jif_no h
theorem jcs_rel {α β : Type} {R : α → β → Prop} {g : Int} {l : List jP3} {r : List jP3 → α → α} {t : List jP3 → β → β} {d : Nat} {a : α} {b : β} (h : R a b → R (r (jnx g d (l.headD (0, 0, 0)) :: l) a) (t (jnx g d (l.headD (0, 0, 0)) :: l) b)) (q : R a b) : R (jcs g r l d a) (jcs g t l d b) := by
  by_cases c : jnx g d (l.headD (0, 0, 0)) ∈ l
  · rw [jcs_yes c, jcs_yes c]
    exact q
  · rw [jcs_no c, jcs_no c]
    exact h q
/-- s for every walk of k steps more -/
noncomputable def jcw {α : Type} (g : Int) (s : List jP3 → α → α) : Nat → List jP3 → α → α
  | 0, l, a => s l a
  | k + 1, l, a => jfe (jdir g).toNat (jcs g (jcw g s k) l) (jdir g).toNat a
/-- s for every walk of 1 .. k steps more -/
noncomputable def jny {α : Type} (g : Int) (s : List jP3 → α → α) : Nat → List jP3 → α → α
  | 0, _, a => a
  | k + 1, l, a => jfe (jdir g).toNat (jcs g (fun m b => jny g s k m (s m b)) l) (jdir g).toNat a
theorem jcw_rel {α β : Type} {R : α → β → Prop} {g : Int} {s : List jP3 → α → α} {t : List jP3 → β → β} : ∀ (k : Nat) (l : List jP3), (∀ m a b, m.length = l.length + k → R a b → R (s m a) (t m b)) → ∀ a b, R a b → R (jcw g s k l a) (jcw g t k l b)
  | 0, l, h, a, b, r => h l a b rfl r
  | k + 1, l, h, a, b, r => by
    show R (jfe _ (jcs g (jcw g s k) l) _ a) (jfe _ (jcs g (jcw g t k) l) _ b)
    refine jfe_rel (f := jcs g (jcw g s k) l) (g := jcs g (jcw g t k) l) (fun d a b _ q => ?_) _ (Nat.le_refl _) a b r
    refine jcs_rel (fun q => ?_) q
    exact jcw_rel k _ (fun m a b hm q => h m a b (by rw [hm, List.length_cons]; omega) q) _ _ q
theorem jny_rel {α β : Type} {R : α → β → Prop} {g : Int} {s : List jP3 → α → α} {t : List jP3 → β → β} : ∀ (k : Nat) (l : List jP3), (∀ m a b, R a b → R (s m a) (t m b)) → ∀ a b, R a b → R (jny g s k l a) (jny g t k l b)
  | 0, _, _, _, _, r => r
  | k + 1, l, h, a, b, r => by
    show R (jfe _ (jcs g (fun m b => jny g s k m (s m b)) l) _ a) (jfe _ (jcs g (fun m b => jny g t k m (t m b)) l) _ b)
    refine jfe_rel (f := jcs g (fun m b => jny g s k m (s m b)) l) (g := jcs g (fun m b => jny g t k m (t m b)) l) (fun d a b _ q => ?_) _ (Nat.le_refl _) a b r
    refine jcs_rel (fun q => ?_) q
    exact jny_rel k _ h _ _ (h _ _ _ q)
/-- how many walks of k steps more; of 1 .. k steps more together -/
noncomputable def jNN (g : Int) (k : Nat) (l : List jP3) : Nat := jcw g (fun _ c => c + 1) k l 0
noncomputable def jTT (g : Int) (k : Nat) (l : List jP3) : Nat := jny g (fun _ c => c + 1) k l 0
theorem jcw_cnt {α : Type} {g : Int} {s : List jP3 → α → α} {π : α → Nat} (h : ∀ m a, π (s m a) = π a + 1) (k : Nat) (l : List jP3) (a : α) : π (jcw g s k l a) = π a + jNN g k l :=
  jcw_rel (R := fun x c => π x = π a + c) k l (fun m x c _ q => by rw [h, q]; omega) a 0 rfl
theorem jny_cnt {α : Type} {g : Int} {s : List jP3 → α → α} {π : α → Nat} (h : ∀ m a, π (s m a) = π a + 1) (k : Nat) (l : List jP3) (a : α) : π (jny g s k l a) = π a + jTT g k l :=
  jny_rel (R := fun x c => π x = π a + c) k l (fun m x c q => by rw [h, q]; omega) a 0 rfl
def jsm (n : Nat) (w : Nat → Nat) : Nat → Nat
  | 0 => 0
  | c + 1 => w (n - (c + 1)) + jsm n w c
theorem jfe_sum {n : Nat} {f : Nat → Nat → Nat} {w : Nat → Nat} (h : ∀ d a, f d a = a + w d) : ∀ c a, jfe n f c a = a + jsm n w c
  | 0, _ => rfl
  | c + 1, a => by
    show jfe n f c (f (n - (c + 1)) a) = a + (w (n - (c + 1)) + jsm n w c)
    rw [jfe_sum h c, h]
    omega
theorem jsm_add {n : Nat} {w u v : Nat → Nat} (h : ∀ d, w d = u d + v d) : ∀ c, jsm n w c = jsm n u c + jsm n v c
  | 0 => rfl
  | c + 1 => by
    show w (n - (c + 1)) + jsm n w c = (u (n - (c + 1)) + jsm n u c) + (v (n - (c + 1)) + jsm n v c)
    rw [jsm_add h c, h]
    omega
theorem jsm_congr {n : Nat} {w u : Nat → Nat} (h : ∀ d, w d = u d) (c : Nat) : jsm n w c = jsm n u c := by rw [show w = u from funext h]
noncomputable def jwt (g : Int) (r : List jP3 → Nat) (l : List jP3) (d : Nat) : Nat := jif (jnx g d (l.headD (0, 0, 0)) ∈ l) 0 (r (jnx g d (l.headD (0, 0, 0)) :: l))
theorem jNN_succ (g : Int) (k : Nat) (l : List jP3) : jNN g (k + 1) l = jsm (jdir g).toNat (jwt g (jNN g k) l) (jdir g).toNat := by
  show jfe _ _ _ 0 = _
  rw [jfe_sum (w := jwt g (jNN g k) l) (fun d a => ?_), Nat.zero_add]
  by_cases c : jnx g d (l.headD (0, 0, 0)) ∈ l
  · rw [jcs_yes c]
    unfold jwt
    rw [jif_yes c]
    rfl
  · rw [jcs_no c]
    unfold jwt
    rw [jif_no c]
    exact jcw_cnt (π := id) (fun _ _ => rfl) k _ a
theorem jTT_succ (g : Int) (k : Nat) (l : List jP3) : jTT g (k + 1) l = jsm (jdir g).toNat (jwt g (fun m => 1 + jTT g k m) l) (jdir g).toNat := by
  show jfe _ _ _ 0 = _
  rw [jfe_sum (w := jwt g (fun m => 1 + jTT g k m) l) (fun d a => ?_), Nat.zero_add]
  by_cases c : jnx g d (l.headD (0, 0, 0)) ∈ l
  · rw [jcs_yes c]
    unfold jwt
    rw [jif_yes c]
    rfl
  · rw [jcs_no c]
    unfold jwt
    rw [jif_no c]
    have q := jny_cnt (g := g) (s := fun (_ : List jP3) (c : Nat) => c + 1) (π := id) (fun _ _ => rfl) k (jnx g d (l.headD (0, 0, 0)) :: l) (a + 1)
    refine q.trans ?_
    show a + 1 + jTT g k _ = a + (1 + jTT g k _)
    omega
theorem jTT_step (g : Int) : ∀ (k : Nat) (l : List jP3), jTT g (k + 1) l = jTT g k l + jNN g (k + 1) l
  | 0, l => by
    rw [jTT_succ, jNN_succ]
    show _ = 0 + _
    rw [Nat.zero_add]
    exact jsm_congr (fun d => rfl) _
  | k + 1, l => by
    rw [jTT_succ g (k + 1), jTT_succ g k, jNN_succ g (k + 1)]
    refine jsm_add (fun d => ?_) _
    unfold jwt
    by_cases c : jnx g d (l.headD (0, 0, 0)) ∈ l
    · rw [jif_yes c, jif_yes c, jif_yes c]
    · rw [jif_no c, jif_no c, jif_no c]
      show 1 + jTT g (k + 1) _ = 1 + jTT g k _ + jNN g (k + 1) _
      rw [jTT_step g k]
      omega
theorem jTT_mono {g : Int} {l : List jP3} {m n : Nat} (h : m ≤ n) : jTT g m l ≤ jTT g n l := by
  induction n with
  | zero =>
    rw [show m = 0 by omega]
    exact Nat.le_refl _
  | succ n ih =>
    by_cases c : m = n + 1
    · rw [c]
      exact Nat.le_refl _
    · rw [jTT_step]
      have := ih (by omega)
      omega
/-- on CUBES more than 600000 walks of at most 13 steps -/
def jS3 (p : jP3) : Int := p.1 + p.2.1 + p.2.2
theorem jNN_up : ∀ (k : Nat) (l : List jP3), (∀ p ∈ l, jS3 p ≤ jS3 (l.headD (0, 0, 0))) → 3 ^ k ≤ jNN 3 k l
  | 0, _, _ => Nat.le_refl 1
  | k + 1, l, h => by
    rw [jNN_succ]
    have key : ∀ d : Nat, d < 3 → 3 ^ k ≤ jwt 3 (jNN 3 k) l d := fun d hd => by
      have hs : jS3 (jnx 3 d (l.headD (0, 0, 0))) = jS3 (l.headD (0, 0, 0)) + 1 := by
        generalize l.headD (0, 0, 0) = p
        rcases (show d = 0 ∨ d = 1 ∨ d = 2 by omega) with rfl | rfl | rfl
        · show p.1 + 1 + (p.2.1 + 0) + (p.2.2 + 0) = p.1 + p.2.1 + p.2.2 + 1; omega
        · show p.1 + 0 + (p.2.1 + 1) + (p.2.2 + 0) = p.1 + p.2.1 + p.2.2 + 1; omega
        · show p.1 + 0 + (p.2.1 + 0) + (p.2.2 + 1) = p.1 + p.2.1 + p.2.2 + 1; omega
      have hn : ¬ jnx 3 d (l.headD (0, 0, 0)) ∈ l := fun z => by have := h _ z; omega
      unfold jwt
      rw [jif_no hn]
      refine jNN_up k _ (fun p hp => ?_)
      rcases List.mem_cons.mp hp with rfl | hp
      · exact Int.le_refl _
      · have := h p hp
        show _ ≤ jS3 (jnx 3 d (l.headD (0, 0, 0)))
        omega
    have k0 := key 0 (by omega)
    have k1 := key 1 (by omega)
    have k2 := key 2 (by omega)
    show _ ≤ jsm 6 _ 6
    show _ ≤ jwt 3 (jNN 3 k) l 0 + (jwt 3 (jNN 3 k) l 1 + (jwt 3 (jNN 3 k) l 2 + _))
    rw [Nat.pow_succ]
    omega
theorem jTT_cubes {n : Nat} (h : 13 ≤ n) : 600000 < jTT 3 n [(0, 0, 0)] := by
  have h1 := jTT_mono (g := 3) (l := [(0, 0, 0)]) h
  have h4 : jTT 3 13 [(0, 0, 0)] = jTT 3 12 [(0, 0, 0)] + jNN 3 13 [(0, 0, 0)] := jTT_step 3 12 _
  have h2 := jNN_up 13 [(0, 0, 0)] (fun p hp => by rw [List.mem_singleton.mp hp]; exact Int.le_refl _)
  have h3 : 3 ^ 13 = 1594323 := by decide
  omega
/-- counting that stops once more than L are counted -/
def jfz {α : Type} (L : Nat) (π : α → Nat) (s : List jP3 → α → α) (m : List jP3) (a : α) : α := if L < π a then a else s m a
theorem jfz_stop {α : Type} {g : Int} {L : Nat} {π : α → Nat} {s : List jP3 → α → α} {a : α} (h : L < π a) (k : Nat) (l : List jP3) : jcw g (jfz L π s) k l a = a :=
  jcw_rel (R := fun x (_ : Unit) => x = a) (t := fun _ u => u) k l (fun m x u _ q => by rw [q]; exact if_pos h) a () rfl
theorem jfz_stope {α : Type} {g : Int} {L : Nat} {π : α → Nat} {s : List jP3 → α → α} {a : α} (h : L < π a) {k n : Nat} {l : List jP3} {c : Nat} (hc : c ≤ n) : jfe n (jcs g (jcw g (jfz L π s) k) l) c a = a :=
  jfe_rel (R := fun x (_ : Unit) => x = a) (g := fun _ u => u) (fun d x u _ q => by
    by_cases e : jnx g d (l.headD (0, 0, 0)) ∈ l
    · rw [jcs_yes e]; exact q
    · rw [jcs_no e, q]; exact jfz_stop h k _) c hc a () rfl
theorem jfz_run {α : Type} {g : Int} {L : Nat} {π : α → Nat} {s : List jP3 → α → α} (h : ∀ m a, π (s m a) = π a + 1) (k : Nat) (l : List jP3) (a : α) : (π (jcw g s k l a) ≤ L → jcw g (jfz L π s) k l a = jcw g s k l a) ∧ (L < π (jcw g s k l a) → L < π (jcw g (jfz L π s) k l a)) :=
  jcw_rel (R := fun x y => (π y ≤ L → x = y) ∧ (L < π y → L < π x)) k l (fun m x y _ q => by
    unfold jfz
    by_cases c : L < π x
    · rw [if_pos c]
      refine ⟨fun z => ?_, fun _ => c⟩
      rw [h] at z
      have e := q.1 (by omega)
      rw [e] at c
      omega
    · rw [if_neg c]
      have e : x = y := q.1 (Nat.not_lt.mp (fun z => c (q.2 z)))
      rw [e]
      exact ⟨fun _ => rfl, fun z => z⟩) a a ⟨fun _ => rfl, fun z => z⟩
/-- all walks of 1 .. n steps, those of n steps scored -/
def jsr {γ : Type} (n : Nat) (s : List jP3 → γ → γ) (m : List jP3) (a : Nat × γ) : Nat × γ := (a.1 + 1, if m.length = n + 1 then s m a.2 else a.2)
theorem jsr_in {γ : Type} {n : Nat} {s : List jP3 → γ → γ} {m : List jP3} {a : Nat × γ} (h : m.length = n + 1) : (jsr n s m a).2 = s m a.2 := if_pos h
theorem jsr_out {γ : Type} {n : Nat} {s : List jP3 → γ → γ} {m : List jP3} {a : Nat × γ} (h : ¬ m.length = n + 1) : (jsr n s m a).2 = a.2 := if_neg h
theorem jny_leaf {γ : Type} {g : Int} {n : Nat} {s : List jP3 → γ → γ} : ∀ (k : Nat) (l : List jP3) (a : Nat × γ), l.length + (k + 1) = n + 1 → (jny g (jsr n s) (k + 1) l a).2 = jcw g s (k + 1) l a.2
  | 0, l, a, h => by
    show (jfe _ (jcs g (fun m b => jny g (jsr n s) 0 m (jsr n s m b)) l) _ a).2 = jfe _ (jcs g (jcw g s 0) l) _ a.2
    refine jfe_rel (R := fun (x : Nat × γ) y => x.2 = y) (f := jcs g (fun m b => jny g (jsr n s) 0 m (jsr n s m b)) l) (g := jcs g (jcw g s 0) l) (fun d x y _ q => ?_) _ (Nat.le_refl _) a a.2 rfl
    refine jcs_rel (R := fun (x : Nat × γ) y => x.2 = y) (fun q => ?_) q
    show (jsr n s _ x).2 = s _ y
    rw [jsr_in (by rw [List.length_cons]; omega), q]
  | k + 1, l, a, h => by
    show (jfe _ (jcs g (fun m b => jny g (jsr n s) (k + 1) m (jsr n s m b)) l) _ a).2 = jfe _ (jcs g (jcw g s (k + 1)) l) _ a.2
    refine jfe_rel (R := fun (x : Nat × γ) y => x.2 = y) (f := jcs g (fun m b => jny g (jsr n s) (k + 1) m (jsr n s m b)) l) (g := jcs g (jcw g s (k + 1)) l) (fun d x y _ q => ?_) _ (Nat.le_refl _) a a.2 rfl
    refine jcs_rel (R := fun (x : Nat × γ) y => x.2 = y) (fun q => ?_) q
    show (jny g (jsr n s) (k + 1) _ (jsr n s _ x)).2 = jcw g s (k + 1) _ y
    rw [jny_leaf k _ _ (by rw [List.length_cons]; omega), jsr_out (by rw [List.length_cons]; omega), q]
/-- the places come to, the last one first -/
def jpl3 (P : Nat → jP3) : Nat → List jP3
  | 0 => [P 0]
  | i + 1 => P (i + 1) :: jpl3 P i
theorem jpl3_head (P : Nat → jP3) : ∀ j, (jpl3 P j).headD (0, 0, 0) = P j
  | 0 => rfl
  | _ + 1 => rfl
theorem jpl3_len (P : Nat → jP3) : ∀ j, (jpl3 P j).length = j + 1
  | 0 => rfl
  | j + 1 => by
    show (jpl3 P j).length + 1 = _
    rw [jpl3_len P j]
theorem jpl3_congr {P Q : Nat → jP3} : ∀ j, (∀ i, i ≤ j → P i = Q i) → jpl3 P j = jpl3 Q j
  | 0, h => by
    show [P 0] = [Q 0]
    rw [h 0 (Nat.le_refl _)]
  | j + 1, h => by
    show P (j + 1) :: jpl3 P j = Q (j + 1) :: jpl3 Q j
    rw [h (j + 1) (Nat.le_refl _), jpl3_congr j (fun i hi => h i (by omega))]
theorem jpl3_mem {P : Nat → jP3} {p : jP3} : ∀ j, p ∈ jpl3 P j ↔ ∃ i, i ≤ j ∧ p = P i
  | 0 => ⟨fun h => ⟨0, Nat.le_refl _, List.mem_singleton.mp h⟩, fun ⟨i, hi, e⟩ => List.mem_singleton.mpr (by rw [e, show i = 0 by omega])⟩
  | j + 1 => by
    show p ∈ P (j + 1) :: jpl3 P j ↔ _
    rw [List.mem_cons, jpl3_mem j]
    constructor
    · rintro (e | ⟨i, hi, e⟩)
      · exact ⟨j + 1, Nat.le_refl _, e⟩
      · exact ⟨i, by omega, e⟩
    · rintro ⟨i, hi, e⟩
      by_cases c : i = j + 1
      · exact Or.inl (c ▸ e)
      · exact Or.inr ⟨i, by omega, e⟩
/-- what is still to come, by the directions tried last -/
noncomputable def jrF {α : Type} (g : Int) (s : List jP3 → α → α) (n : Nat) (P : Nat → jP3) (i : Nat) : Nat → α → α := jcs g (fun m b => jny g s (n - i - 1) m (s m b)) (jpl3 P i)
noncomputable def jrm {α : Type} (g : Int) (s : List jP3 → α → α) (n : Nat) (P : Nat → jP3) (R : Nat → Int) : Nat → α → α
  | 0, a => jfe (jdir g).toNat (jrF g s n P 0) (jdir g - (R 0 + 1)).toNat a
  | j + 1, a => jrm g s n P R j (jfe (jdir g).toNat (jrF g s n P (j + 1)) (jdir g - (R (j + 1) + 1)).toNat a)
/-- what comes at the last place, then what comes before it -/
noncomputable def jrb {α : Type} (g : Int) (s : List jP3 → α → α) (n : Nat) (P : Nat → jP3) (R : Nat → Int) : Nat → α → α
  | 0, a => a
  | j + 1, a => jrm g s n P R j a
theorem jrm_eq {α : Type} {g : Int} {s : List jP3 → α → α} {n : Nat} {P : Nat → jP3} {R : Nat → Int} : ∀ (j : Nat) (a : α), jrm g s n P R j a = jrb g s n P R j (jfe (jdir g).toNat (jrF g s n P j) (jdir g - (R j + 1)).toNat a)
  | 0, _ => rfl
  | _ + 1, _ => rfl
theorem jrm_congr {α : Type} {g : Int} {s : List jP3 → α → α} {n : Nat} {P P' : Nat → jP3} {R R' : Nat → Int} : ∀ (j : Nat), (∀ i, i ≤ j → P i = P' i ∧ R i = R' i) → ∀ a : α, jrm g s n P R j a = jrm g s n P' R' j a
  | 0, h, a => by
    show jfe _ (jrF g s n P 0) _ a = jfe _ (jrF g s n P' 0) _ a
    rw [(h 0 (Nat.le_refl _)).2]
    unfold jrF
    rw [jpl3_congr 0 (fun i hi => (h i hi).1)]
  | j + 1, h, a => by
    show jrm g s n P R j (jfe _ (jrF g s n P (j + 1)) _ a) = jrm g s n P' R' j (jfe _ (jrF g s n P' (j + 1)) _ a)
    rw [jrm_congr j (fun i hi => h i (by omega)), (h (j + 1) (Nat.le_refl _)).2]
    unfold jrF
    rw [jpl3_congr (j + 1) (fun i hi => (h i hi).1)]
theorem jrb_congr {α : Type} {g : Int} {s : List jP3 → α → α} {n : Nat} {P P' : Nat → jP3} {R R' : Nat → Int} : ∀ (j : Nat), (∀ i, i < j → P i = P' i ∧ R i = R' i) → ∀ a : α, jrb g s n P R j a = jrb g s n P' R' j a
  | 0, _, _ => rfl
  | j + 1, h, a => jrm_congr j (fun i hi => h i (by omega)) a
theorem jrm_out {α : Type} {g : Int} {s : List jP3 → α → α} {n : Nat} {P : Nat → jP3} {R R' : Nat → Int} {j : Nat} {a : α} (h : R j + 1 = jdir g) (hR : ∀ i, i < j → R' i = R i) : jrm g s n P R j a = jrb g s n P R' j a := by
  rw [jrm_eq, show (jdir g - (R j + 1)).toNat = 0 by omega]
  exact jrb_congr j (fun i hi => ⟨rfl, (hR i hi).symm⟩) a
theorem jrm_next {α : Type} {g : Int} {s : List jP3 → α → α} {n : Nat} {P : Nat → jP3} {R R' : Nat → Int} {j : Nat} {a b : α} (h0 : 0 ≤ R j + 1) (h1 : R j + 1 < jdir g) (hR : ∀ i, i < j → R' i = R i) (hj : R' j = R j + 1) (hb : jrF g s n P j (R j + 1).toNat a = b) : jrm g s n P R j a = jrm g s n P R' j b := by
  rw [jrm_eq, jrm_eq, hj, show (jdir g - (R j + 1)).toNat = (jdir g - (R j + 1 + 1)).toNat + 1 by omega, jfe_step (d := (R j + 1).toNat) (by omega), hb]
  exact jrb_congr j (fun i hi => ⟨rfl, (hR i hi).symm⟩) _
theorem jrm_same {α : Type} {g : Int} {s : List jP3 → α → α} {n : Nat} {P : Nat → jP3} {R R' : Nat → Int} {j : Nat} {a : α} (h0 : 0 ≤ R j + 1) (h1 : R j + 1 < jdir g) (hR : ∀ i, i < j → R' i = R i) (hj : R' j = R j + 1) (hin : jnx g (R j + 1) (P j) ∈ jpl3 P j) : jrm g s n P R j a = jrm g s n P R' j a := by
  refine jrm_next h0 h1 hR hj ?_
  unfold jrF
  refine jcs_yes ?_
  rw [jpl3_head, Int.toNat_of_nonneg h0]
  exact hin
theorem jrm_leaf {α : Type} {g : Int} {s : List jP3 → α → α} {n : Nat} {P : Nat → jP3} {R R' : Nat → Int} {j : Nat} {a : α} (h0 : 0 ≤ R j + 1) (h1 : R j + 1 < jdir g) (hR : ∀ i, i < j → R' i = R i) (hj : R' j = R j + 1) (hin : ¬ jnx g (R j + 1) (P j) ∈ jpl3 P j) (hn : j + 1 = n) : jrm g s n P R j a = jrm g s n P R' j (s (jnx g (R j + 1) (P j) :: jpl3 P j) a) := by
  refine jrm_next h0 h1 hR hj ?_
  unfold jrF
  rw [jcs_no (by rw [jpl3_head, Int.toNat_of_nonneg h0]; exact hin), jpl3_head, Int.toNat_of_nonneg h0, show n - j - 1 = 0 by omega]
  rfl
theorem jrm_down {α : Type} {g : Int} {s : List jP3 → α → α} {n : Nat} {P P' : Nat → jP3} {R R' : Nat → Int} {j : Nat} {a : α} (h0 : 0 ≤ R j + 1) (h1 : R j + 1 < jdir g) (hR : ∀ i, i < j → R' i = R i) (hj : R' j = R j + 1) (hin : ¬ jnx g (R j + 1) (P j) ∈ jpl3 P j) (hn : j + 1 < n) (hP : ∀ i, i ≤ j → P' i = P i) (hP2 : P' (j + 1) = jnx g (R j + 1) (P j)) (hR2 : R' (j + 1) = -1) : jrm g s n P R j a = jrm g s n P' R' (j + 1) (s (jnx g (R j + 1) (P j) :: jpl3 P j) a) := by
  show _ = jrm g s n P' R' j _
  rw [← jrm_congr (P := P) (R := R') j (fun i hi => ⟨(hP i hi).symm, rfl⟩)]
  refine jrm_next h0 h1 hR hj ?_
  unfold jrF
  rw [jcs_no (by rw [jpl3_head, Int.toNat_of_nonneg h0]; exact hin), jpl3_head, Int.toNat_of_nonneg h0, show n - j - 1 = (n - (j + 1) - 1) + 1 by omega, hR2, show (jdir g - (-1 + 1)).toNat = (jdir g).toNat by omega]
  show jfe _ (jcs g _ _) _ _ = jfe _ (jcs g _ (P' (j + 1) :: jpl3 P' j)) _ _
  rw [hP2, jpl3_congr j (fun i hi => (hP i hi))]
theorem jrm_le {α : Type} {g : Int} {s : List jP3 → α → α} {π : α → Nat} (h : ∀ m a, π a ≤ π (s m a)) {n : Nat} {P : Nat → jP3} {R : Nat → Int} : ∀ (j : Nat) (a : α), -1 ≤ R j → (∀ i, i ≤ j → -1 ≤ R i) → π a ≤ π (jrm g s n P R j a) := by
  have k0 : ∀ (c : Nat) (i : Nat) (a : α), c ≤ (jdir g).toNat → π a ≤ π (jfe (jdir g).toNat (jrF g s n P i) c a) := fun c i a hc =>
    jfe_rel (R := fun x (_ : Unit) => π a ≤ π x) (g := fun _ u => u) (fun d x u _ q => jcs_rel (R := fun x (_ : Unit) => π a ≤ π x) (t := fun _ u => u) (fun q => by
      refine jny_rel (R := fun x (_ : Unit) => π a ≤ π x) (t := fun _ u => u) _ _ (fun m x _ q => Nat.le_trans q (h m x)) _ () (Nat.le_trans q (h _ _))) (b := ()) q) c hc a () (Nat.le_refl _)
  intro j
  induction j with
  | zero => intro a _ hR; exact k0 _ 0 a (by have := hR 0 (Nat.le_refl _); omega)
  | succ j ih =>
    intro a _ hR
    exact Nat.le_trans (k0 _ (j + 1) a (by have := hR (j + 1) (Nat.le_refl _); omega)) (ih _ (hR j (by omega)) (fun i hi => hR i (by omega)))
theorem jrm_init {α : Type} {g : Int} {s : List jP3 → α → α} {n : Nat} {P : Nat → jP3} {R : Nat → Int} {a : α} (hn : 1 ≤ n) (hP : P 0 = (0, 0, 0)) (hR : R 0 = -1) : jrm g s n P R 0 a = jny g s n [(0, 0, 0)] a := by
  obtain ⟨k, rfl⟩ : ∃ k, n = k + 1 := ⟨n - 1, by omega⟩
  show jfe _ (jrF g s (k + 1) P 0) _ a = jfe _ _ _ a
  rw [hR, show (jdir g - (-1 + 1)).toNat = (jdir g).toNat by omega]
  unfold jrF
  rw [show jpl3 P 0 = [(0, 0, 0)] by show [P 0] = _; rw [hP]]
  rfl
/-- how high x came, -1 once it was not above 0 -/
def jtp : List jP3 → Int
  | p :: q :: r => if p.1 ≤ 0 ∨ jtp (q :: r) < 0 then -1 else if jtp (q :: r) < p.1 then p.1 else jtp (q :: r)
  | _ => 0
abbrev jbsd (g : Int) (p : jP3) : Prop := jsq g p.1 p.2.1 p.2.2 = 1 ∧ (¬ g = 2 ∨ 0 ≤ p.2.1)
abbrev jA4 : Type := Nat × Int64 × Int32 × Int32
/-- one walk scored: how many, squares, rings, bridges -/
noncomputable def jsc (g : Int) (l : List jP3) (a : jA4) : jA4 :=
  (a.1 + 1, a.2.1 + (Int32.ofInt (jsq g (l.headD (0, 0, 0)).1 (l.headD (0, 0, 0)).2.1 (l.headD (0, 0, 0)).2.2)).toInt64, jif (jbsd g (l.headD (0, 0, 0))) (a.2.2.1 + 1) a.2.2.1, jif (0 < (l.headD (0, 0, 0)).1 ∧ jtp l = (l.headD (0, 0, 0)).1) (a.2.2.2 + 1) a.2.2.2)
