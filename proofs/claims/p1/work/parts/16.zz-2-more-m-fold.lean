/-! ways: all rows of steps, over what may follow -/
def jgs {α β : Type} (ch : β → Nat → Option β) (r : β → α → α) (l : β) (d : Nat) (a : α) : α := match ch l d with
  | some m => r m a
  | none => a
theorem jgs_yes {α β : Type} {ch : β → Nat → Option β} {r : β → α → α} {l m : β} {d : Nat} {a : α} (h : ch l d = some m) : jgs ch r l d a = r m a := by unfold jgs; rw [h]
theorem jgs_no {α β : Type} {ch : β → Nat → Option β} {r : β → α → α} {l : β} {d : Nat} {a : α} (h : ch l d = none) : jgs ch r l d a = a := by unfold jgs; rw [h]
theorem jgs_rel {α γ β : Type} {R : α → γ → Prop} {ch : β → Nat → Option β} {r : β → α → α} {t : β → γ → γ} {l : β} {d : Nat} {a : α} {b : γ} (h : ∀ m, ch l d = some m → R (r m a) (t m b)) (q : R a b) : R (jgs ch r l d a) (jgs ch t l d b) := by
  cases c : ch l d with
  | none => rw [jgs_no c, jgs_no c]; exact q
  | some m => rw [jgs_yes c, jgs_yes c]; exact h m c
/-- s for every row of 1 .. k steps more -/
def jgy {α β : Type} (D : Nat) (ch : β → Nat → Option β) (s : β → α → α) : Nat → β → α → α
  | 0, _, a => a
  | k + 1, l, a => jfe D (jgs ch (fun m b => jgy D ch s k m (s m b)) l) D a
theorem jgy_rel {α γ β : Type} {R : α → γ → Prop} {I : β → Prop} {D : Nat} {ch : β → Nat → Option β} {s : β → α → α} {t : β → γ → γ} (hI : ∀ l d m, I l → ch l d = some m → I m) (hs : ∀ m a b, I m → R a b → R (s m a) (t m b)) : ∀ (k : Nat) (l : β), I l → ∀ a b, R a b → R (jgy D ch s k l a) (jgy D ch t k l b)
  | 0, _, _, _, _, r => r
  | k + 1, l, hl, a, b, r => by
    show R (jfe D (jgs ch (fun m b => jgy D ch s k m (s m b)) l) D a) (jfe D (jgs ch (fun m b => jgy D ch t k m (t m b)) l) D b)
    refine jfe_rel (R := R) (f := jgs ch (fun m b => jgy D ch s k m (s m b)) l) (g := jgs ch (fun m b => jgy D ch t k m (t m b)) l) (fun d x y _ q => ?_) D (Nat.le_refl _) a b r
    exact jgs_rel (R := R) (fun m hm => jgy_rel hI hs k m (hI l d m hl hm) _ _ (hs m _ _ (hI l d m hl hm) q)) q
/-- a property of what is counted -/
theorem jgy_inv {α β : Type} {P : α → Prop} {I : β → Prop} {D : Nat} {ch : β → Nat → Option β} {s : β → α → α} (hI : ∀ l d m, I l → ch l d = some m → I m) (hs : ∀ m a, I m → P a → P (s m a)) (k : Nat) (l : β) (hl : I l) (a : α) (ha : P a) : P (jgy D ch s k l a) :=
  jgy_rel (R := fun x (_ : Unit) => P x) (t := fun _ u => u) hI (fun m x _ hm q => hs m x hm q) k l hl a () ha
/-- counting that stops -/
theorem jgz_stop {α β : Type} {D L : Nat} {ch : β → Nat → Option β} {π : α → Nat} {s : β → α → α} {a : α} (h : L < π a) (k : Nat) (l : β) : jgy D ch (fun m x => if L < π x then x else s m x) k l a = a :=
  jgy_rel (I := fun _ => True) (R := fun x (_ : Unit) => x = a) (t := fun _ u => u) (fun _ _ _ _ _ => trivial) (fun m x u _ q => by rw [q]; exact if_pos h) k l trivial a () rfl
theorem jgz_stope {α β : Type} {D L : Nat} {ch : β → Nat → Option β} {π : α → Nat} {s : β → α → α} {a : α} (h : L < π a) {k n : Nat} {l : β} {c : Nat} (hc : c ≤ n) : jfe n (jgs ch (fun m b => jgy D ch (fun m x => if L < π x then x else s m x) k m (if L < π b then b else s m b)) l) c a = a :=
  jfe_rel (R := fun x (_ : Unit) => x = a) (g := fun _ u => u) (fun d x u _ q => by
    cases e : ch l d with
    | none => rw [jgs_no e]; exact q
    | some m => rw [jgs_yes e, q, if_pos h]; exact jgz_stop h k m) c hc a () rfl
theorem jgz_run {α β : Type} {D L : Nat} {ch : β → Nat → Option β} {π : α → Nat} {s : β → α → α} (h : ∀ m a, π (s m a) = π a + 1) (k : Nat) (l : β) (a : α) : (π (jgy D ch s k l a) ≤ L → jgy D ch (fun m x => if L < π x then x else s m x) k l a = jgy D ch s k l a) ∧ (L < π (jgy D ch s k l a) → L < π (jgy D ch (fun m x => if L < π x then x else s m x) k l a)) :=
  jgy_rel (I := fun _ => True) (R := fun x y => (π y ≤ L → x = y) ∧ (L < π y → L < π x)) (fun _ _ _ _ _ => trivial) (fun m x y _ q => by
    by_cases c : L < π x
    · rw [if_pos c]
      refine ⟨fun z => ?_, fun _ => c⟩
      rw [h] at z
      have e := q.1 (by omega)
      rw [e] at c
      omega
    · rw [if_neg c]
      have e : x = y := q.1 (Nat.not_lt.mp (fun z => c (q.2 z)))
      rw [e]
      exact ⟨fun _ => rfl, fun z => z⟩) k l trivial a a ⟨fun _ => rfl, fun z => z⟩
/-- what is still to come, by what was tried last; P i the row at depth i -/
def jgF {α β : Type} (D : Nat) (ch : β → Nat → Option β) (s : β → α → α) (n : Nat) (P : Nat → β) (i : Nat) : Nat → α → α := jgs ch (fun m b => jgy D ch s (n - i - 1) m (s m b)) (P i)
def jgm {α β : Type} (D : Nat) (ch : β → Nat → Option β) (s : β → α → α) (n : Nat) (P : Nat → β) (R : Nat → Int) : Nat → α → α
  | 0, a => jfe D (jgF D ch s n P 0) (D - (R 0 + 1)).toNat a
  | j + 1, a => jgm D ch s n P R j (jfe D (jgF D ch s n P (j + 1)) (D - (R (j + 1) + 1)).toNat a)
def jgb {α β : Type} (D : Nat) (ch : β → Nat → Option β) (s : β → α → α) (n : Nat) (P : Nat → β) (R : Nat → Int) : Nat → α → α
  | 0, a => a
  | j + 1, a => jgm D ch s n P R j a
section JGM
variable {α β : Type} {D : Nat} {ch : β → Nat → Option β} {s : β → α → α} {n : Nat}
theorem jgm_eq {P : Nat → β} {R : Nat → Int} : ∀ (j : Nat) (a : α), jgm D ch s n P R j a = jgb D ch s n P R j (jfe D (jgF D ch s n P j) (D - (R j + 1)).toNat a)
  | 0, _ => rfl
  | _ + 1, _ => rfl
theorem jgm_congr {P P' : Nat → β} {R R' : Nat → Int} : ∀ (j : Nat), (∀ i, i ≤ j → P i = P' i ∧ R i = R' i) → ∀ a : α, jgm D ch s n P R j a = jgm D ch s n P' R' j a
  | 0, h, a => by
    show jfe D (jgF D ch s n P 0) _ a = jfe D (jgF D ch s n P' 0) _ a
    rw [(h 0 (Nat.le_refl _)).2]
    unfold jgF
    rw [(h 0 (Nat.le_refl _)).1]
  | j + 1, h, a => by
    show jgm D ch s n P R j (jfe D (jgF D ch s n P (j + 1)) _ a) = jgm D ch s n P' R' j (jfe D (jgF D ch s n P' (j + 1)) _ a)
    rw [jgm_congr j (fun i hi => h i (by omega)), (h (j + 1) (Nat.le_refl _)).2]
    unfold jgF
    rw [(h (j + 1) (Nat.le_refl _)).1]
theorem jgb_congr {P P' : Nat → β} {R R' : Nat → Int} : ∀ (j : Nat), (∀ i, i < j → P i = P' i ∧ R i = R' i) → ∀ a : α, jgb D ch s n P R j a = jgb D ch s n P' R' j a
  | 0, _, _ => rfl
  | j + 1, h, a => jgm_congr j (fun i hi => h i (by omega)) a
theorem jgm_out {P : Nat → β} {R R' : Nat → Int} {j : Nat} {a : α} (h : R j + 1 = D) (hR : ∀ i, i < j → R' i = R i) : jgm D ch s n P R j a = jgb D ch s n P R' j a := by
  rw [jgm_eq, show ((D : Int) - (R j + 1)).toNat = 0 by omega]
  exact jgb_congr j (fun i hi => ⟨rfl, (hR i hi).symm⟩) a
theorem jgm_next {P : Nat → β} {R R' : Nat → Int} {j : Nat} {a b : α} (h0 : 0 ≤ R j + 1) (h1 : R j + 1 < D) (hR : ∀ i, i < j → R' i = R i) (hj : R' j = R j + 1) (hb : jgF D ch s n P j (R j + 1).toNat a = b) : jgm D ch s n P R j a = jgm D ch s n P R' j b := by
  rw [jgm_eq, jgm_eq, hj, show ((D : Int) - (R j + 1)).toNat = ((D : Int) - (R j + 1 + 1)).toNat + 1 by omega, jfe_step (d := (R j + 1).toNat) (by omega), hb]
  exact jgb_congr j (fun i hi => ⟨rfl, (hR i hi).symm⟩) _
theorem jgm_same {P : Nat → β} {R R' : Nat → Int} {j : Nat} {a : α} (h0 : 0 ≤ R j + 1) (h1 : R j + 1 < D) (hR : ∀ i, i < j → R' i = R i) (hj : R' j = R j + 1) (hin : ch (P j) (R j + 1).toNat = none) : jgm D ch s n P R j a = jgm D ch s n P R' j a := jgm_next h0 h1 hR hj (jgs_no hin)
theorem jgm_down {P P' : Nat → β} {R R' : Nat → Int} {j : Nat} {a : α} {m : β} (h0 : 0 ≤ R j + 1) (h1 : R j + 1 < D) (hR : ∀ i, i < j → R' i = R i) (hj : R' j = R j + 1) (hin : ch (P j) (R j + 1).toNat = some m) (hn : j + 1 < n) (hP : ∀ i, i ≤ j → P' i = P i) (hP2 : P' (j + 1) = m) (hR2 : R' (j + 1) = -1) : jgm D ch s n P R j a = jgm D ch s n P' R' (j + 1) (s m a) := by
  show _ = jgm D ch s n P' R' j _
  rw [← jgm_congr (P := P) (R := R') j (fun i hi => ⟨(hP i hi).symm, rfl⟩)]
  refine jgm_next h0 h1 hR hj ?_
  unfold jgF
  rw [jgs_yes hin, show n - j - 1 = (n - (j + 1) - 1) + 1 by omega, hR2, show ((D : Int) - (-1 + 1)).toNat = D by omega, hP2]
  rfl
theorem jgm_le {π : α → Nat} (h : ∀ m a, π a ≤ π (s m a)) {P : Nat → β} {R : Nat → Int} : ∀ (j : Nat) (a : α), (∀ i, i ≤ j → -1 ≤ R i) → π a ≤ π (jgm D ch s n P R j a) := by
  have k0 : ∀ (c : Nat) (i : Nat) (a : α), c ≤ D → π a ≤ π (jfe D (jgF D ch s n P i) c a) := fun c i a hc =>
    jfe_rel (R := fun x (_ : Unit) => π a ≤ π x) (g := fun _ u => u) (fun d x u _ q => by
      unfold jgF
      cases e : ch (P i) d with
      | none => rw [jgs_no e]; exact q
      | some m =>
        rw [jgs_yes e]
        exact jgy_inv (P := fun x => π a ≤ π x) (I := fun _ => True) (fun _ _ _ _ _ => trivial) (fun m x _ q => Nat.le_trans q (h m x)) _ m trivial _ (Nat.le_trans q (h m x))) c hc a () (Nat.le_refl _)
  intro j
  induction j with
  | zero => intro a hR; exact k0 _ 0 a (by have := hR 0 (Nat.le_refl _); omega)
  | succ j ih =>
    intro a hR
    exact Nat.le_trans (k0 _ (j + 1) a (by have := hR (j + 1) (Nat.le_refl _); omega)) (ih _ (fun i hi => hR i (by omega)))
theorem jgm_init {P : Nat → β} {R : Nat → Int} {l : β} {a : α} (hn : 1 ≤ n) (hP : P 0 = l) (hR : R 0 = -1) : jgm D ch s n P R 0 a = jgy D ch s n l a := by
  obtain ⟨k, rfl⟩ : ∃ k, n = k + 1 := ⟨n - 1, by omega⟩
  show jfe D (jgF D ch s (k + 1) P 0) _ a = jfe D _ D a
  rw [hR, show ((D : Int) - (-1 + 1)).toNat = D by omega]
  unfold jgF
  rw [hP]
  rfl
end JGM
/-! ways on a board: places by their bits -/
def jdk (n d : Nat) : Nat := if d = 0 then n + 1 else if d = 1 then n + 8 else if d = 2 then n - 1 else n - 8
def jch (op : Nat → Bool) (l : List Nat) (d : Nat) : Option (List Nat) := if op (jdk (l.headD 0) d) = true ∧ ¬ jdk (l.headD 0) d ∈ l then some (jdk (l.headD 0) d :: l) else none
theorem jch_yes {op : Nat → Bool} {l : List Nat} {d : Nat} (h : op (jdk (l.headD 0) d) = true) (k : ¬ jdk (l.headD 0) d ∈ l) : jch op l d = some (jdk (l.headD 0) d :: l) := if_pos ⟨h, k⟩
theorem jch_no {op : Nat → Bool} {l : List Nat} {d : Nat} (h : ¬ (op (jdk (l.headD 0) d) = true ∧ ¬ jdk (l.headD 0) d ∈ l)) : jch op l d = none := if_neg h
theorem jch_is {op : Nat → Bool} {l m : List Nat} {d : Nat} (h : jch op l d = some m) : (op (jdk (l.headD 0) d) = true ∧ ¬ jdk (l.headD 0) d ∈ l) ∧ m = jdk (l.headD 0) d :: l := by
  unfold jch at h
  split at h
  · rename_i c
    cases h
    exact ⟨c, rfl⟩
  · cases h
abbrev jW9 : Type := Nat × (Nat → Nat) × Nat × Nat
/-- one row scored: rows, ways by steps, ways, full ways -/
def jws (goal NO : Nat) (m : List Nat) (a : jW9) : jW9 := if m.headD 0 = goal then (a.1 + 1, (fun k => if k = m.length - 1 then a.2.1 k + 1 else a.2.1 k), a.2.2.1 + 1, if m.length = NO then a.2.2.2 + 1 else a.2.2.2) else (a.1 + 1, a.2.1, a.2.2.1, a.2.2.2)
theorem jws_1 (goal NO : Nat) (m : List Nat) (a : jW9) : (jws goal NO m a).1 = a.1 + 1 := by unfold jws; split <;> rfl
abbrev jW0 : jW9 := (0, (fun _ => 0), 0, 0)
/-- all that is counted -/
def jWY (op : Nat → Bool) (goal NO : Nat) : jW9 := jgy 4 (jch op) (jws goal NO) 36 [9] jW0
abbrev jwz (goal NO : Nat) : List Nat → jW9 → jW9 := fun m x => if 600000 < x.1 then x else jws goal NO m x
theorem jWY_run (op : Nat → Bool) (goal NO : Nat) : ((jWY op goal NO).1 ≤ 600000 → jgy 4 (jch op) (jwz goal NO) 36 [9] jW0 = jWY op goal NO) ∧ (600000 < (jWY op goal NO).1 → 600000 < (jgy 4 (jch op) (jwz goal NO) 36 [9] jW0).1) :=
  jgz_run (π := fun a : jW9 => a.1) (s := jws goal NO) (fun m a => jws_1 goal NO m a) 36 [9] jW0
/-- bits that are left -/
def jlf (op : Nat → Bool) (l : List Nat) : Nat := jsum (fun n => (op n && !decide (n ∈ l)).toNat) 64
theorem jsum_one {t u : Nat → Nat} {k : Nat} (h1 : t k = u k + 1) (ho : ∀ n : Nat, n ≠ k → t n = u n) : ∀ n : Nat, k < n → jsum t n = jsum u n + 1
  | 0, hk => absurd hk (Nat.not_lt_zero k)
  | n + 1, hk => by
    show jsum t n + t n = jsum u n + u n + 1
    by_cases e : k = n
    · subst e
      rw [h1, jsum_congr k (u := u) (fun i hi => ho i (by omega))]
      omega
    · rw [jsum_one h1 ho n (by omega), ho n (fun z => e z.symm)]
      omega
/-- a row's places and what is left are all -/
def jli (op : Nat → Bool) (NO : Nat) (l : List Nat) : Prop := jlf op l + l.length = NO
theorem jli.next {op : Nat → Bool} {NO : Nat} (h64 : ∀ n : Nat, op n = true → n < 64) {l m : List Nat} {d : Nat} (h : jli op NO l) (hm : jch op l d = some m) : jli op NO m := by
  obtain ⟨⟨c1, c2⟩, rfl⟩ := jch_is hm
  have q := jsum_one (t := fun n => (op n && !decide (n ∈ l)).toNat) (u := fun n => (op n && !decide (n ∈ jdk (l.headD 0) d :: l)).toNat) (k := jdk (l.headD 0) d) (by
    show (op _ && !decide (_ ∈ l)).toNat = (op _ && !decide (_ ∈ _ :: l)).toNat + 1
    rw [c1, decide_eq_false c2, decide_eq_true (show jdk (l.headD 0) d ∈ jdk (l.headD 0) d :: l from List.mem_cons_self)]
    rfl) (fun n hn => by
    show (op n && !decide (n ∈ l)).toNat = (op n && !decide (n ∈ _ :: l)).toNat
    rw [decide_eq_decide.mpr (show n ∈ l ↔ n ∈ jdk (l.headD 0) d :: l from ⟨fun z => List.mem_cons_of_mem _ z, fun z => (List.mem_cons.mp z).elim (fun w => absurd w hn) id⟩)]) 64 (h64 _ c1)
  unfold jli jlf at h ⊢
  rw [List.length_cons]
  omega
theorem jli.le {op : Nat → Bool} {NO : Nat} {l : List Nat} (h : jli op NO l) : l.length ≤ NO := by unfold jli at h; omega
theorem jli.full {op : Nat → Bool} {NO : Nat} {l : List Nat} (h : jli op NO l) : l.length = NO ↔ ∀ n : Nat, n < 64 → ¬ (op n = true ∧ ¬ n ∈ l) := by
  unfold jli jlf at h
  constructor
  · intro e n hn c
    have q := jsum_one (t := fun n => (op n && !decide (n ∈ l)).toNat) (u := fun k => if k = n then 0 else (op k && !decide (k ∈ l)).toNat) (k := n) (by
      show (op n && !decide (n ∈ l)).toNat = (if n = n then 0 else _) + 1
      rw [if_pos rfl, c.1, decide_eq_false c.2]
      rfl) (fun k hk => (if_neg hk).symm) 64 hn
    omega
  · intro c
    rw [jsum_zero 64 (fun n hn => by
      by_cases e : op n = true
      · rw [e, decide_eq_true (Classical.byContradiction (fun z => c n hn ⟨e, z⟩))]
        rfl
      · rw [Bool.eq_false_iff.mpr e]
        rfl)] at h
    omega
/-- the ways by their steps together are the ways -/
theorem jWY_sum {op : Nat → Bool} {goal NO : Nat} (h64 : ∀ n : Nat, op n = true → n < 64) (hNO : NO ≤ 36) (h1 : jli op NO [9]) : jsum (jWY op goal NO).2.1 36 = (jWY op goal NO).2.2.1 :=
  jgy_inv (P := fun a : jW9 => jsum a.2.1 36 = a.2.2.1) (I := fun m => jli op NO m ∧ 1 ≤ m.length) (fun l d m hl hm => ⟨hl.1.next h64 hm, by obtain ⟨-, rfl⟩ := jch_is hm; rw [List.length_cons]; omega⟩) (fun m a hm ha => by
    unfold jws
    by_cases c : m.headD 0 = goal
    · rw [if_pos c]
      have hl := hm.1.le
      have h2 := hm.2
      have q := jsum_one (t := fun k => if k = m.length - 1 then a.2.1 k + 1 else a.2.1 k) (u := a.2.1) (k := m.length - 1) (if_pos rfl) (fun n hn => if_neg hn) 36 (by omega)
      show jsum _ 36 = _ + 1
      rw [q, ha]
    · rw [if_neg c]
      exact ha) 36 [9] ⟨h1, Nat.le_refl 1⟩ jW0 (jsum_zero 36 (fun _ _ => rfl))
