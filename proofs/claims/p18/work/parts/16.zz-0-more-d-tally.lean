/-! the class's tally -/
def jRg (g : Int) : Int := if g = 3 then 12 else 20
def jLg (g : Int) : Int := if g = 3 then 15625 else 1681
theorem jRg_cases (g : Int) : (g = 3 ∧ jRg g = 12 ∧ jLg g = 15625) ∨ (¬ g = 3 ∧ jRg g = 20 ∧ jLg g = 1681) := by
  unfold jRg jLg
  by_cases h : g = 3
  · rw [if_pos h, if_pos h]
    exact Or.inl ⟨h, rfl, rfl⟩
  · rw [if_neg h, if_neg h]
    exact Or.inr ⟨h, rfl, rfl⟩
def jcell (g : Int) (p : jP3) : Int := if g = 3 then p.1 + 12 + 25 * (p.2.1 + 12) + 625 * (p.2.2 + 12) else p.1 + 20 + 41 * (p.2.1 + 20)
theorem jcell_3 {g : Int} {p : jP3} (h : g = 3) : jcell g p = p.1 + 12 + 25 * (p.2.1 + 12) + 625 * (p.2.2 + 12) := if_pos h
theorem jcell_n {g : Int} {p : jP3} (h : ¬ g = 3) : jcell g p = p.1 + 20 + 41 * (p.2.1 + 20) := if_neg h
def jin (g : Int) (p : jP3) : Prop := (-jRg g ≤ p.1 ∧ p.1 ≤ jRg g) ∧ (-jRg g ≤ p.2.1 ∧ p.2.1 ≤ jRg g) ∧ (-jRg g ≤ p.2.2 ∧ p.2.2 ≤ jRg g) ∧ (¬ g = 3 → p.2.2 = 0)
theorem jcell_b {g : Int} {p : jP3} (h : jin g p) : 0 ≤ jcell g p ∧ jcell g p < jLg g := by
  obtain ⟨h1, h2, h3, h4⟩ := h
  rcases jRg_cases g with ⟨e, e1, e2⟩ | ⟨e, e1, e2⟩
  · rw [jcell_3 e, e2]
    rw [e1] at h1 h2 h3
    omega
  · rw [jcell_n e, e2]
    rw [e1] at h1 h2 h3
    omega
theorem jcell_inj3 {g : Int} {p q : jP3} (h : jin g p) (k : jin g q) (he : (jcell g p).toNat = (jcell g q).toNat) : p = q := by
  have b1 := jcell_b h
  have b2 := jcell_b k
  have he2 : jcell g p = jcell g q := by omega
  obtain ⟨h1, h2, h3, h4⟩ := h
  obtain ⟨k1, k2, k3, k4⟩ := k
  rcases jRg_cases g with ⟨e, e1, e2⟩ | ⟨e, e1, e2⟩
  · rw [jcell_3 e, jcell_3 e] at he2
    rw [e1] at h1 h2 h3 k1 k2 k3
    exact Prod.ext (by omega) (Prod.ext (by omega) (by omega))
  · rw [jcell_n e, jcell_n e] at he2
    rw [e1] at h1 h2 h3 k1 k2 k3
    have := h4 e
    have := k4 e
    exact Prod.ext (by omega) (Prod.ext (by omega) (by omega))
def jtk (g : Int) (T : Nat → Int32) (l : List jP3) : Prop := ∀ p, jin g p → ((T (jcell g p).toNat).toInt = 0 ↔ ¬ p ∈ l)
theorem jtk.set {g : Int} {T T2 : Nat → Int32} {l : List jP3} {p : jP3} (h : jtk g T l) (hp : jin g p) (h1 : ¬ (T2 (jcell g p).toNat).toInt = 0) (ho : ∀ k, k ≠ (jcell g p).toNat → T2 k = T k) : jtk g T2 (p :: l) := fun q hq => by
  by_cases e : q = p
  · subst e
    exact ⟨fun z => absurd z h1, fun z => absurd List.mem_cons_self z⟩
  · rw [ho _ (fun z => e (jcell_inj3 hq hp z)), h q hq, List.mem_cons]
    exact ⟨fun z w => w.elim e z, fun z w => z (Or.inr w)⟩
theorem jtk.clr {g : Int} {T T2 : Nat → Int32} {l : List jP3} {p : jP3} (h : jtk g T (p :: l)) (hn : ¬ p ∈ l) (hp : jin g p) (h1 : (T2 (jcell g p).toNat).toInt = 0) (ho : ∀ k, k ≠ (jcell g p).toNat → T2 k = T k) : jtk g T2 l := fun q hq => by
  by_cases e : q = p
  · subst e
    exact ⟨fun _ => hn, fun _ => h1⟩
  · rw [ho _ (fun z => e (jcell_inj3 hq hp z)), h q hq, List.mem_cons]
    exact ⟨fun z w => z (Or.inr w), fun z w => w.elim e z⟩
/-- near the beginning -/
def jnr (g n : Int) (l : List jP3) : Prop := ∀ p ∈ l, (-n ≤ p.1 ∧ p.1 ≤ n) ∧ (-n ≤ p.2.1 ∧ p.2.1 ≤ n) ∧ (-n ≤ p.2.2 ∧ p.2.2 ≤ n) ∧ (¬ g = 3 → p.2.2 = 0)
theorem jnx_b {g d n : Int} {p : jP3} (h : (-n ≤ p.1 ∧ p.1 ≤ n) ∧ (-n ≤ p.2.1 ∧ p.2.1 ≤ n) ∧ (-n ≤ p.2.2 ∧ p.2.2 ≤ n) ∧ (¬ g = 3 → p.2.2 = 0)) : (-(n + 1) ≤ (jnx g d p).1 ∧ (jnx g d p).1 ≤ n + 1) ∧ (-(n + 1) ≤ (jnx g d p).2.1 ∧ (jnx g d p).2.1 ≤ n + 1) ∧ (-(n + 1) ≤ (jnx g d p).2.2 ∧ (jnx g d p).2.2 ≤ n + 1) ∧ (¬ g = 3 → (jnx g d p).2.2 = 0) := by
  obtain ⟨h1, h2, h3, h4⟩ := h
  have b1 := jsx_b g d
  have b2 := jsy_b g d (p.1 + p.2.1)
  have b3 := jsz_b g d
  refine ⟨?_, ?_, ?_, fun e => ?_⟩
  · show -(n + 1) ≤ p.1 + jsx g d ∧ p.1 + jsx g d ≤ n + 1; omega
  · show -(n + 1) ≤ p.2.1 + jsy g d (p.1 + p.2.1) ∧ p.2.1 + jsy g d (p.1 + p.2.1) ≤ n + 1; omega
  · show -(n + 1) ≤ p.2.2 + jsz g d ∧ p.2.2 + jsz g d ≤ n + 1; omega
  · show p.2.2 + jsz g d = 0
    rw [h4 e, show jsz g d = 0 from if_neg e]
    rfl
theorem jnr.step {g d n : Int} {l : List jP3} {p : jP3} (h : jnr g n l) (hp : p ∈ l) : jnr g (n + 1) (jnx g d p :: l) := fun q hq => by
  rcases List.mem_cons.mp hq with rfl | hq
  · exact jnx_b (h p hp)
  · obtain ⟨h1, h2, h3, h4⟩ := h q hq
    exact ⟨by omega, by omega, by omega, h4⟩
theorem jnr.next {g d n : Int} {l : List jP3} {p : jP3} (h : jnr g n l) (hp : p ∈ l) (hn : n + 1 ≤ jRg g) : jin g (jnx g d p) := by
  obtain ⟨h1, h2, h3, h4⟩ := jnx_b (d := d) (h p hp)
  exact ⟨by omega, by omega, by omega, h4⟩
theorem jnr.one {g : Int} : jnr g 0 [(0, 0, 0)] := fun p hp => by
  rw [List.mem_singleton.mp hp]
  exact ⟨⟨Int.le_refl _, Int.le_refl _⟩, ⟨Int.le_refl _, Int.le_refl _⟩, ⟨Int.le_refl _, Int.le_refl _⟩, fun _ => rfl⟩
theorem jin.zero {g : Int} : jin g (0, 0, 0) := by
  have := jRg_cases g
  refine ⟨?_, ?_, ?_, fun _ => rfl⟩ <;> (show -jRg g ≤ 0 ∧ 0 ≤ jRg g) <;> omega
theorem jhd_mem {l : List jP3} {n : Nat} (h : l.length = n + 1) : l.headD (0, 0, 0) ∈ l := by
  cases l with
  | nil => cases h
  | cons p r => exact List.mem_cons_self
theorem jtp_b {g n : Int} (hn : 0 ≤ n) : ∀ {l : List jP3}, jnr g n l → -1 ≤ jtp l ∧ jtp l ≤ n
  | [], _ => by show -1 ≤ (0 : Int) ∧ (0 : Int) ≤ n; omega
  | [p], _ => by show -1 ≤ (0 : Int) ∧ (0 : Int) ≤ n; omega
  | p :: q :: r, h => by
    have ih := jtp_b hn (l := q :: r) (fun z hz => h z (List.mem_cons_of_mem _ hz))
    have hp := h p List.mem_cons_self
    show -1 ≤ (if _ then _ else _) ∧ (if _ then _ else _) ≤ n
    (repeat' split) <;> omega
def jtpc (l : List jP3) : Int := if jtp l < 0 then 1000 else jtp l
theorem jtpc_step {g n : Int} {l : List jP3} {p : jP3} {m : Nat} (hl : l.length = m + 1) (hn : 0 ≤ n) (hm : n ≤ 900) (h : jnr g n (p :: l)) : jtpc (p :: l) = if p.1 ≤ 0 then 1000 else if jtpc l < p.1 then p.1 else jtpc l := by
  cases l with
  | nil => cases hl
  | cons q r =>
    have ih := jtp_b hn (l := q :: r) (fun z hz => h z (List.mem_cons_of_mem _ hz))
    have hp := h p List.mem_cons_self
    unfold jtpc
    have e : jtp (p :: q :: r) = if p.1 ≤ 0 ∨ jtp (q :: r) < 0 then -1 else if jtp (q :: r) < p.1 then p.1 else jtp (q :: r) := rfl
    rw [e]
    (repeat' split) <;> omega
theorem jtpc_bridge {g n x y z : Int} {l : List jP3} {m : Nat} (hl : l.length = m + 2) (hn : 0 ≤ n) (hm : n ≤ 900) (h : jnr g n l) (hh : l.headD (0, 0, 0) = (x, y, z)) : jtpc l = x ↔ (0 < x ∧ jtp l = x) := by
  match l, hl, hh with
  | p :: q :: r, _, hh =>
    have hp := h p List.mem_cons_self
    have ih := jtp_b hn (l := q :: r) (fun w hw => h w (List.mem_cons_of_mem _ hw))
    have hx : p.1 = x := by
      have e : p = (x, y, z) := hh
      rw [e]
    have e : jtp (p :: q :: r) = if p.1 ≤ 0 ∨ jtp (q :: r) < 0 then -1 else if jtp (q :: r) < p.1 then p.1 else jtp (q :: r) := rfl
    unfold jtpc
    rw [e]
    (repeat' split) <;> omega
abbrev jac (WC : Nat → Int32) (SQ : Nat → Int64) (RC BC : Nat → Int32) (L : Nat) : jA4 := ((WC L).toInt.toNat, SQ L, RC L, BC L)
theorem jsc_mk {g x y z : Int} {l : List jP3} {WC RC BC WC2 RC2 BC2 : Nat → Int32} {SQ SQ2 : Nat → Int64} {L : Nat} {q : Int32} (hl : l.headD (0, 0, 0) = (x, y, z)) (h0 : 0 ≤ (WC L).toInt) (h1 : (WC2 L).toInt = (WC L).toInt + 1) (hq : q.toInt = jsq g x y z) (h2 : SQ2 L = SQ L + q.toInt64) (h3 : (jbsd g (x, y, z) ∧ RC2 L = RC L + 1) ∨ (¬ jbsd g (x, y, z) ∧ RC2 L = RC L)) (h4 : ((0 < x ∧ jtp l = x) ∧ BC2 L = BC L + 1) ∨ (¬ (0 < x ∧ jtp l = x) ∧ BC2 L = BC L)) : jac WC2 SQ2 RC2 BC2 L = jsc g l (jac WC SQ RC BC L) := by
  unfold jsc
  rw [hl]
  refine Prod.ext ?_ (Prod.ext ?_ (Prod.ext ?_ ?_))
  · show (WC2 L).toInt.toNat = (WC L).toInt.toNat + 1
    omega
  · show SQ2 L = SQ L + (Int32.ofInt (jsq g x y z)).toInt64
    rw [h2, ← hq, Int32.ofInt_toInt]
  · show RC2 L = jif (jbsd g (x, y, z)) (RC L + 1) (RC L)
    rcases h3 with ⟨e, h⟩ | ⟨e, h⟩
    · rw [jif_yes e, h]
    · rw [jif_no e, h]
  · show BC2 L = jif (0 < x ∧ jtp l = x) (BC L + 1) (BC L)
    rcases h4 with ⟨e, h⟩ | ⟨e, h⟩
    · rw [jif_yes e, h]
    · rw [jif_no e, h]
def jot (WC2 : Nat → Int32) (SQ2 : Nat → Int64) (RC2 BC2 WC : Nat → Int32) (SQ : Nat → Int64) (RC BC : Nat → Int32) (L : Nat) : Prop := ∀ j : Nat, j ≠ L → WC2 j = WC j ∧ SQ2 j = SQ j ∧ RC2 j = RC j ∧ BC2 j = BC j
theorem jot.rf {WC RC BC : Nat → Int32} {SQ : Nat → Int64} {L : Nat} : jot WC SQ RC BC WC SQ RC BC L := fun _ _ => ⟨rfl, rfl, rfl, rfl⟩
theorem jot.trans {WC RC BC WC2 RC2 BC2 WC3 RC3 BC3 : Nat → Int32} {SQ SQ2 SQ3 : Nat → Int64} {L : Nat} (h : jot WC2 SQ2 RC2 BC2 WC SQ RC BC L) (k : jot WC3 SQ3 RC3 BC3 WC2 SQ2 RC2 BC2 L) : jot WC3 SQ3 RC3 BC3 WC SQ RC BC L := fun j hj => by
  obtain ⟨a, b, c, d⟩ := h j hj
  obtain ⟨a2, b2, c2, d2⟩ := k j hj
  exact ⟨a2.trans a, b2.trans b, c2.trans c, d2.trans d⟩
/-- counting that stops, over a tally's cells -/
noncomputable abbrev jfzs (g tg : Int) : List jP3 → jA4 → jA4 := jfz (600000 - tg).toNat (fun a : jA4 => a.1) (jsc g)
