/-! a new tally; what a tally holds of n steps -/
def jtnf (V0 V : jH) (q : Nat) : Prop := ∃ (fo rn : Nat) (FO RN : Nat → Int32), (V0 fo = none ∧ V0 rn = none) ∧ jfR V q 2 8 fo ∧ jfR V q 2 9 rn ∧ V fo = some (.inl (13, 8, .inl FO)) ∧ V rn = some (.inl (9, 7, .inl RN)) ∧ (∀ k : Nat, k < 8 → (FO k).toInt = -1) ∧ ∀ k : Nat, k < 7 → (RN k).toInt = -1
def jtyn (V0 V : jH) (q : Nat) (g : Int) : Prop := ∃ P : jad, (V0 P.1 = none ∧ V0 P.2.1 = none ∧ V0 P.2.2.1 = none ∧ V0 P.2.2.2.1 = none ∧ V0 P.2.2.2.2 = none) ∧ jty V q P g ∧ jtnf V0 V q ∧ jfa [q] V0 V
theorem jtyn.mk {V0 V1 V : jH} {q tk wc sq rc bc fo rn ln : Nat} {fs : List Value} {x R sd : Int32} {WC FO RN WC2 FO2 RN2 : Nat → Int32}
    (n1 : V0 tk = none) (n2 : V0 wc = none) (n3 : V0 sq = none) (n4 : V0 rc = none) (n5 : V0 bc = none) (n6 : V0 fo = none) (n7 : V0 rn = none)
    (hO : V1 q = some (.inr (2, fs))) (f0 : fs[0]? = some (.int x)) (f1 : fs[1]? = some (.int R)) (f2 : fs[2]? = some (.int sd)) (f3 : fs[3]? = some (.ref tk)) (f4 : fs[4]? = some (.ref wc)) (f5 : fs[5]? = some (.ref sq)) (f6 : fs[6]? = some (.ref rc)) (f7 : fs[7]? = some (.ref bc)) (f8 : fs[8]? = some (.ref fo)) (f9 : fs[9]? = some (.ref rn)) (f11 : fs[11]? = some (.int 0)) (f12 : fs[12]? = some (.int 0)) (f13 : fs[13]? = some (.int 0))
    (hR : R.toInt = jRg x.toInt) (hsd : sd.toInt = 2 * jRg x.toInt + 1) (hln : (ln : Int) = jLg x.toInt)
    (a1 : V1 tk = some (.inl (2, ln, .inl (fun _ => 0)))) (a2 : V1 wc = some (.inl (8, 21, .inl WC))) (a3 : V1 sq = some (.inl (1, 21, .inr (.inl (fun _ => 0))))) (a4 : V1 rc = some (.inl (37, 21, .inl (fun _ => 0)))) (a5 : V1 bc = some (.inl (38, 21, .inl (fun _ => 0)))) (a6 : V1 fo = some (.inl (13, 8, .inl FO))) (a7 : V1 rn = some (.inl (9, 7, .inl RN)))
    (hfa : jfa [q] V0 V1) (hfp : jfp [wc, fo, rn] V1 V)
    (b2 : V wc = some (.inl (8, 21, .inl WC2))) (b6 : V fo = some (.inl (13, 8, .inl FO2))) (b7 : V rn = some (.inl (9, 7, .inl RN2)))
    (w0 : (WC2 0).toInt = 1) (w1 : ∀ k : Nat, 1 ≤ k → k ≤ 20 → (WC2 k).toInt = 0) (w2 : ∀ k : Nat, k < 8 → (FO2 k).toInt = -1) (w3 : ∀ k : Nat, k < 7 → (RN2 k).toInt = -1) : jtyn V0 V q x.toInt := by
  have same : ∀ (a : Nat) (e : jE), V1 a = some e → jsh e ≠ .inl 8 → jsh e ≠ .inl 13 → jsh e ≠ .inl 9 → V a = some e := fun a e h k1 k2 k3 => (hfp a (fun z => by
    simp only [List.mem_cons, List.not_mem_nil, or_false] at z
    rcases z with z | z | z
    · rw [z, a2] at h
      cases h
      exact k1 rfl
    · rw [z, a6] at h
      cases h
      exact k2 rfl
    · rw [z, a7] at h
      cases h
      exact k3 rfl)).trans h
  have sO : V q = some (.inr (2, fs)) := same q _ hO (by simp [jsh]) (by simp [jsh]) (by simp [jsh])
  refine ⟨(tk, wc, sq, rc, bc), ⟨n1, n2, n3, n4, n5⟩, ⟨x, R, sd, 0, 0, 0, ln, fun _ => 0, WC2, fun _ => 0, fun _ => 0, fun _ => 0, ⟨rfl, hR, hsd, hln⟩, ⟨⟨fs, sO, f0⟩, ⟨fs, sO, f1⟩, ⟨fs, sO, f2⟩, ⟨fs, sO, f11⟩, ⟨fs, sO, f12⟩, ⟨fs, sO, f13⟩⟩, ⟨⟨fs, sO, f3⟩, ⟨fs, sO, f4⟩, ⟨fs, sO, f5⟩, ⟨fs, sO, f6⟩, ⟨fs, sO, f7⟩⟩, ⟨?_, b2, ?_, ?_, ?_⟩, jtk.zero, ?_⟩, ⟨fo, rn, FO2, RN2, ⟨n6, n7⟩, ⟨fs, sO, f8⟩, ⟨fs, sO, f9⟩, b6, b7, w2, w3⟩, hfa.fp (fun a ha => ?_) hfp⟩
  · exact same tk _ a1 (by simp [jsh]) (by simp [jsh]) (by simp [jsh])
  · exact same sq _ a3 (by simp [jsh]) (by simp [jsh]) (by simp [jsh])
  · exact same rc _ a4 (by simp [jsh]) (by simp [jsh]) (by simp [jsh])
  · exact same bc _ a5 (by simp [jsh]) (by simp [jsh]) (by simp [jsh])
  · exact jtal.init (jI_inj.mp (show (WC2 0).toInt = (1 : Int32).toInt from w0)) (fun k k1 k2 => jI_inj.mp (show (WC2 k).toInt = (0 : Int32).toInt from w1 k k1 k2)) (fun _ => rfl) (fun _ => rfl) (fun _ => rfl)
  · simp only [List.mem_cons, List.not_mem_nil, or_false] at ha
    rcases ha with z | z | z
    · rw [z]; exact n2
    · rw [z]; exact n6
    · rw [z]; exact n7
/-- a new tally, seen from before it was asked for -/
def jtm (V0 V : jH) (tl q : Nat) (g : Int) : Prop := ∃ P : jad, (∀ b ∈ jtyl q P, V0 b = none) ∧ jty V q P g ∧ jtnf V0 V q ∧ jfa [tl] V0 V
theorem jtyn.up {V0 V1 V2 V3 : jH} {q tl : Nat} {g : Int} {e0 : jE} (h : jtyn V1 V2 q g) (hk : ∀ (b : Nat) (e : jE), V0 b = some e → V1 b = some e) (hn : V0 q = none) (ht : V0 tl = some e0) (hB : ∀ b : Nat, b ≠ tl → V3 b = V2 b) : jtm V0 V3 tl q g := by
  obtain ⟨P, ⟨p1, p2, p3, p4, p5⟩, h2, ⟨fo, rn, FO, RN, ⟨p6, p7⟩, r8, r9, a8, a9, w1, w2⟩, h4⟩ := h
  have fr : ∀ b : Nat, V1 b = none → V0 b = none := fun b hb => by
    cases e : V0 b with
    | none => rfl
    | some e2 => rw [hk b e2 e] at hb; cases hb
  have ne : ∀ b : Nat, V0 b = none → b ≠ tl := fun b hb z => by
    rw [z, ht] at hb
    cases hb
  have fl : ∀ b ∈ jtyl q P, V0 b = none := fun b hb => by
    simp only [jtyl, List.mem_cons, List.not_mem_nil, or_false] at hb
    rcases hb with z | z | z | z | z | z
    · rw [z]; exact hn
    · rw [z]; exact fr _ p1
    · rw [z]; exact fr _ p2
    · rw [z]; exact fr _ p3
    · rw [z]; exact fr _ p4
    · rw [z]; exact fr _ p5
  refine ⟨P, fl, h2.same (fun b hb => hB b (ne b (fl b hb))), ⟨fo, rn, FO, RN, ⟨fr _ p6, fr _ p7⟩, r8.same (hB _ (ne _ hn)), r9.same (hB _ (ne _ hn)), (hB _ (ne _ (fr _ p6))).trans a8, (hB _ (ne _ (fr _ p7))).trans a9, w1, w2⟩, fun b e hb he => (hB b (fun z => hb (z ▸ List.mem_cons_self))).trans (h4 b e (fun z => ?_) (hk b e he))⟩
  rw [List.mem_singleton.mp z, hn] at he
  cases he
/-- what a tally holds of n steps -/
def jtyr (V : jH) (P : jad) (g : Int) (n : Nat) : Prop := ∃ (WC : Nat → Int32) (SQ : Nat → Int64) (RC BC : Nat → Int32), (V P.2.1 = some (.inl (8, 21, .inl WC)) ∧ V P.2.2.1 = some (.inl (1, 21, .inr (.inl SQ))) ∧ V P.2.2.2.1 = some (.inl (37, 21, .inl RC)) ∧ V P.2.2.2.2 = some (.inl (38, 21, .inl BC))) ∧ (jTT g n jL0 ≤ 600000 → (WC n).toInt = ((jrq g n).1 : Int) ∧ SQ n = (jrq g n).2.1 ∧ (2 ≤ n → RC n = (jrq g n).2.2.1) ∧ (1 ≤ n → BC n = (jrq g n).2.2.2))
theorem jtal.has {g : Int} {WC RC BC : Nat → Int32} {SQ : Nat → Int64} {cd tg sp : Int} {n : Nat} (h : jtal g WC SQ RC BC cd tg sp) (hn : (n : Int) ≤ cd) : (WC n).toInt = ((jrq g n).1 : Int) ∧ SQ n = (jrq g n).2.1 ∧ (2 ≤ n → RC n = (jrq g n).2.2.1) ∧ (1 ≤ n → BC n = (jrq g n).2.2.2) := by
  obtain ⟨-, -, -, ⟨a5, a6⟩, a7, -⟩ := h
  by_cases e : n = 0
  · subst e
    rw [jrq_0]
    exact ⟨by rw [a5]; rfl, a6, fun z => absurd z (by decide), fun z => absurd z (by decide)⟩
  · obtain ⟨b1, b2⟩ := a7 n (by omega) hn
    obtain ⟨c1, c2, c3⟩ := jrq_1 g n
    have d1 : (WC n).toInt.toNat = (jwn g n).1 := congrArg (fun a : jA4 => a.1) b2
    have d2 : SQ n = (jwn g n).2.1 := congrArg (fun a : jA4 => a.2.1) b2
    have d3 : RC n = (jwn g n).2.2.1 := congrArg (fun a : jA4 => a.2.2.1) b2
    have d4 : BC n = (jwn g n).2.2.2 := congrArg (fun a : jA4 => a.2.2.2) b2
    exact ⟨by omega, d2.trans c2.symm, fun z => by rw [jrq_eq z]; exact d3, fun _ => d4.trans c3.symm⟩
/-- a cell of longs -/
theorem w_X6_cell__x {tS : jTS} (d : Nat) (V0 : jH) {t n : Nat} {f : Nat → Int64} (a : Nat) (x : Int32) (hA : V0 a = some (.inl (t, n, .inr (.inl f)))) (hN : n < 2 ^ 31) (ht : jT[t]? = some .long) (h0 : 0 ≤ x.toInt) (h1 : x.toInt < (n : Int)) : jTot tS mX6_cell_ d [.ref a, .int x] V0 0 0 (fun r V => (∃ y : Int64, r = some (.long y) ∧ f x.toInt.toNat = y) ∧ V = V0) := by
  refine jTot.of_J [some (.ref a), some (.int x)] moX6_cell_ (Nat.le_of_ble_eq_true rfl) rfl ?_
  refine J_aload_n dX6_cell__0 rfl ?_
  refine J_ifnull dX6_cell__1 ?_
  refine J_iload_n dX6_cell__4 rfl ?_
  refine J_if_lt (tgt := 20) dX6_cell__5 (by decide) (fun c => absurd c (by rw [jlt, Int32.toInt_zero]; omega)) (fun _ => ?_)
  refine J_iload_n dX6_cell__8 rfl ?_
  refine J_aload_n dX6_cell__9 rfl ?_
  refine J_alen (v := Int32.ofNat n) dX6_cell__10 hA ht rfl ?_
  refine J_icmp_ge (tgt := 20) dX6_cell__11 (by decide) (fun c => absurd c (by rw [jle, jn_len hN]; omega)) (fun _ => ?_)
  refine J_aload_n dX6_cell__14 rfl ?_
  refine J_iload_n dX6_cell__15 rfl ?_
  refine J_lald dX6_cell__16 hA ht (vp_in_n h0 h1) ?_
  refine J_goto (tgt := 21) dX6_cell__17 (by decide) ?_
  exact J_ret (r := some (.long _)) dX6_cell__21 ⟨rfl, rfl⟩ ⟨⟨_, rfl, rfl⟩, rfl⟩
theorem jmk.co {g : Int} {n i : Nat} {CO RG BG : Nat → Int32} {SQ : Nat → Int64} (h : jmk g n CO SQ RG BG i) : (jTT g n jL0 ≤ 600000 ∧ 0 ≤ (CO i).toInt ∧ (CO i).toInt = ((jrq g n).1 : Int) ∧ SQ i = (jrq g n).2.1 ∧ RG i = (jrq g n).2.2.1 ∧ BG i = (jrq g n).2.2.2) ∨ (600000 < jTT g n jL0 ∧ (CO i).toInt = -5) := by
  rcases h with ⟨h1, h2, h3⟩ | h
  · have d1 : (CO i).toInt.toNat = (jrq g n).1 := congrArg (fun a : jA4 => a.1) h3
    have d2 : SQ i = (jrq g n).2.1 := congrArg (fun a : jA4 => a.2.1) h3
    have d3 : RG i = (jrq g n).2.2.1 := congrArg (fun a : jA4 => a.2.2.1) h3
    have d4 : BG i = (jrq g n).2.2.2 := congrArg (fun a : jA4 => a.2.2.2) h3
    exact Or.inl ⟨h1, h2, by omega, d2, d3, d4⟩
  · exact Or.inr h
theorem jTL.frs {V0 V1 V2 : jH} {tl t : Nat} {P : jad} (hl : ∃ e : jE, V0 tl = some e ∧ jsh e = .inl 5) (hnew : ∀ b ∈ jtyl t P, V0 b = none) (hfa : jfa [tl] V0 V1) (hfp : jfp (jtyl t P) V1 V2) : ∀ (b : Nat) (e : jE), V0 b = some e → jsh e ∈ jTK → V2 b = some e := fun b e q k => (hfp b (fun z => by rw [hnew b z] at q; cases q)).trans (hfa b e (fun z => by
  obtain ⟨e2, l1, l2⟩ := hl
  rw [List.mem_singleton.mp z, l1] at q
  cases q
  rw [l2] at k
  exact absurd k (jnot_of rfl)) q)
section JQ
variable {tS : jTS} {M : jM} {d pc : Nat} {ls : List (Option Value)} {st : List Value} {V : jH} {kc ks : Nat} {Q : Option Value → jH → Prop}
theorem Jc_newqx {p : Nat → Prop} {index t N : Nat} {n : Int32} {Cn : String} (hw : Cond.classLink M.1.cls index Cn ∈ jWG) (hao : Cn ∈ jAO) (ht : jT[t]? = some (.object Cn)) (hd : decode M.2.1 pc = .ok (.anewarray index, 3)) (hn : ¬ n < 0) (hN : n.toNatClampNeg = N) (hby : N * 4 ≤ 536870912) (hok : jok V (.inl (t, N, .inr (.inr (.inr (.inr (fun _ => none))))))) (hkc : 1 ≤ kc) (hks : N ≤ ks) (hW : WTx p V) (kk : ∀ (q : Nat) (V' : jH), V q = none → jis V' (.inl t) q → (∀ (b : Nat) (e : jE), V b = some e → V' b = some e) → WTx p V' → jeff [] V V' → V' q = some (.inl (t, N, .inr (.inr (.inr (.inr (fun _ => none)))))) → J tS M d (pc + 3) ls (.ref q :: st) V' (kc - 1) (ks - N) Q) : J tS M d pc ls (.int n :: st) V kc ks Q := by
  refine J_newq hw hao ht hd hn hN hby hkc hks (fun q hq => kk q _ hq ⟨_, jup_self, rfl⟩ (fun b e hb => ?_) (hW.new hq (fun _ => hok)) (jeff.new hq) jup_self)
  rw [jup_ne (fun z => by rw [z, hq] at hb; cases hb)]
  exact hb
end JQ
theorem jRM.init {V : jH} {m kn co sq rg bg se : Nat} {fs : List Value} (hO : V m = some (.inr (5, fs))) (f1 : fs[11]? = some (.ref kn)) (f2 : fs[12]? = some (.ref co)) (f3 : fs[13]? = some (.ref sq)) (f4 : fs[14]? = some (.ref rg)) (f5 : fs[15]? = some (.ref bg)) (f6 : fs[16]? = some (.ref se)) (a1 : V kn = some (.inl (40, 84, .inl (fun _ => 0)))) (a2 : V co = some (.inl (23, 84, .inl (fun _ => 0)))) (a3 : V sq = some (.inl (46, 84, .inr (.inl (fun _ => 0))))) (a4 : V rg = some (.inl (24, 84, .inl (fun _ => 0)))) (a5 : V bg = some (.inl (25, 84, .inl (fun _ => 0)))) (a6 : V se = some (.inl (41, 79507, .inl (fun _ => 0)))) : jRM V m :=
  ⟨kn, co, sq, rg, bg, se, fun _ => 0, fun _ => 0, fun _ => 0, fun _ => 0, fun _ => 0, fun _ => 0, ⟨⟨fs, hO, f1⟩, ⟨fs, hO, f2⟩, ⟨fs, hO, f3⟩, ⟨fs, hO, f4⟩, ⟨fs, hO, f5⟩, ⟨fs, hO, f6⟩⟩, ⟨a1, a2, a3, a4, a5, a6⟩, fun _ _ => ⟨fun _ => List.not_mem_nil, fun _ => rfl⟩, fun _ _ _ _ => Or.inl ⟨rfl, rfl, rfl, rfl, rfl⟩⟩
theorem jRM.upd {E : List jKd} {V V' : jH} {m kn co sq rg bg se g n : Nat} {KN CO RG BG KN2 CO2 RG2 BG2 SE2 : Nat → Int32} {SQ SQ2 : Nat → Int64} (hg : g ≤ 3) (hn : n ≤ 20) (m1 : jfR V m 5 11 kn) (m2 : jfR V m 5 12 co) (m3 : jfR V m 5 13 sq) (m4 : jfR V m 5 14 rg) (m5 : jfR V m 5 15 bg) (m6 : jfR V m 5 16 se) (he : jeff E V V') (b1 : V' kn = some (.inl (40, 84, .inl KN2))) (b2 : V' co = some (.inl (23, 84, .inl CO2))) (b3 : V' sq = some (.inl (46, 84, .inr (.inl SQ2)))) (b4 : V' rg = some (.inl (24, 84, .inl RG2))) (b5 : V' bg = some (.inl (25, 84, .inl BG2))) (b6 : V' se = some (.inl (41, 79507, .inl SE2))) (hs : jsn SE2 []) (hk : (KN2 (21 * g + n)).toInt = 1) (hm : jmk (g : Int) n CO2 SQ2 RG2 BG2 (21 * g + n)) (ho : ∀ j : Nat, j ≠ 21 * g + n → KN2 j = KN j) (hot : jot CO2 SQ2 RG2 BG2 CO SQ RG BG (21 * g + n)) (h4 : ∀ g n : Nat, g ≤ 3 → n ≤ 20 → jmo (g : Int) n KN CO SQ RG BG (21 * g + n)) : jRM V' m := by
  refine ⟨kn, co, sq, rg, bg, se, KN2, CO2, SQ2, RG2, BG2, SE2, ⟨m1.mono he.1, m2.mono he.1, m3.mono he.1, m4.mono he.1, m5.mono he.1, m6.mono he.1⟩, ⟨b1, b2, b3, b4, b5, b6⟩, hs, fun g2 n2 hg2 hn2 => ?_⟩
  by_cases e : 21 * g2 + n2 = 21 * g + n
  · obtain rfl : g2 = g := by omega
    obtain rfl : n2 = n := by omega
    rcases hm with ⟨q1, q2, q3⟩ | ⟨q1, q2⟩
    · exact Or.inr (Or.inl ⟨hk, q1, q2, q3⟩)
    · exact Or.inr (Or.inr ⟨hk, q1, q2⟩)
  · exact (h4 g2 n2 hg2 hn2).other ho hot e
