/-! THE J LAYER: a method's walk over a pure view of the heap. A view V : address -> content; whatever is known stays known, so no frame is cut. -/
abbrev jE : Type := (Nat × vp_A) ⊕ (Nat × List Value)
abbrev jH : Type := Nat → Option jE
abbrev jM : Type := MethodName × ByteArray × Nat × Option FieldType
/-- where the static arrays lie; the law's script, where it is walked over: its address, length, ints -/
abbrev jTS : Type := (Nat → Nat) × Option (Nat × Nat × (Nat → Int32))
abbrev jD : Type := va_G × (Nat → ClassId) × Nat
def jc (cT : Nat → ClassId) (e : jE) : va_E := match e with
  | .inl a => .inl (cT a.1, a.2)
  | .inr o => .inr o
def jOwn (D : jD) : Nat → Prop := fun a => D.2.2 ≤ a
abbrev jw (L : List Nat) (f : Nat → va_E) : va_W := ([] : va_W) ++ va_pl L f
def jAt (D : jD) (V : jH) (L : List Nat) (f : Nat → va_E) : Prop := ∀ (a : Nat) (e : jE), V a = some e → a ∈ L ∧ f a = jc D.2.1 e
/-- the heap holds the view; all that is in the view is ours -/
def jHv (D : jD) (H : Heap) (V : jH) : Prop := ∃ (L : List Nat) (f : Nat → va_E), jAt D V L f ∧ va_P D.1 jcl (jw L f) H ∧ va_D (jOwn D) (jw L f)
def jtys (cT : Nat → ClassId) : List (ClassId × FieldType) := jT.zipIdx.map (fun q => (cT q.2, q.1))
def jK (D : jD) (U : State) : Prop := va_K D.1 jcl (jtys D.2.1) U
def jSt (tS : jTS) (D : jD) (U : State) : Prop := (∀ (k : Nat) (q : jS), jSs[k]? = some q → va_Z q.1 q.2.1 q.2.2.1 (.ref (tS.1 k)) (jOwn D) U U.heap ∧ va_T q.2.2.2.1 (tS.1 k) q.2.2.2.2.1 q.2.2.2.2.2 (jOwn D) U U.heap) ∧ ∀ (b L : Nat) (xs : Nat → Int32), tS.2 = some (b, L, xs) → va_T .int b L (fun j => .int (xs j)) (jOwn D) U U.heap
/-- the words of nest mates (jNL: own class, place in its pool, the method, the host), and of arrays of references (jAO) -/
def jN (U : State) : Prop := (∀ q ∈ jNL, va_Nw (.methodLinkNest q.1 q.2.1 q.2.2.1 q.2.2.2) U) ∧ ∀ C ∈ jAO, va_AO C U
def jW (M : jM) : List Cond := .code M.1 M.2.1 M.2.2.1 M.2.2.2 :: jWG
def jup (V : jH) (a : Nat) (e : jE) : jH := fun q => if q = a then some e else V q
theorem jup_self {V : jH} {a : Nat} {e : jE} : jup V a e a = some e := if_pos rfl
theorem jup_ne {V : jH} {a q : Nat} {e : jE} (h : q ≠ a) : jup V a e q = V q := if_neg h
def jPc (tS : jTS) (D : jD) (av : List Value) (V : jH) : Array Value → State → Prop := fun v U => v = av.toArray ∧ jHv D U.heap V ∧ jK D U ∧ jSt tS D U ∧ jN U ∧ D.2.2 ≤ U.heap.size
def jQc (D : jD) (Q : Option Value → jH → Prop) : Array Value → State → Outcome → State → Prop := fun _ st o t => (∃ (r : Option Value) (V : jH), o = .returned r ∧ Q r V ∧ jHv D t.heap V) ∧ va_F (jOwn D) st t
def jRm (d mc ms : Nat) : Room := { frames := d, cells := mc, slots := ms, locals := 64 * d }
/-- method M, called with av over a heap of view V, at a depth d, with room for mc cells of ms slots, returns; Q says what and over which view -/
def jTot (tS : jTS) (M : jM) (d : Nat) (av : List Value) (V : jH) (mc ms : Nat) (Q : Option Value → jH → Prop) : Prop :=
  ∀ (l : Launch) (D : jD), Met l M.1 (jW M) (jRm d mc ms) (jPc tS D av V) (jQc D Q) mc ms (jOwn D)
/-- the locals -/
def jP (ls : List (Option Value)) : List (Nat × Value) := ls.zipIdx.filterMap (fun q => q.1.map (fun v => (q.2, v)))
def jL (lsA : Array Slot) (n : Nat) (ls : List (Option Value)) : Prop := lv_has lsA n (jP ls)
theorem jP_mem {ls : List (Option Value)} {i : Nat} {v : Value} : (i, v) ∈ jP ls ↔ ls[i]? = some (some v) := by
  unfold jP
  rw [List.mem_filterMap]
  constructor
  · rintro ⟨⟨o, j⟩, h1, h2⟩
    have h3 := List.mem_zipIdx_iff_getElem?.mp h1
    cases o with
    | none => simp at h2
    | some x =>
      simp at h2
      obtain ⟨rfl, rfl⟩ := h2
      simpa using h3
  · intro h
    exact ⟨(some v, i), List.mem_zipIdx_iff_getElem?.mpr (by simpa using h), rfl⟩
theorem jL.at {lsA : Array Slot} {n : Nat} {ls : List (Option Value)} (h : jL lsA n ls) {i : Nat} {v : Value} (hi : ls[i]? = some (some v)) : lsA[i]? = some (.val v) := h.2.2 (i, v) (jP_mem.mpr hi)
def jlk (ls : List (Option Value)) : Nat → Bool
  | 0 => true
  | j + 1 => match ls[j]? with
    | some (some w) => w.category == 1
    | _ => true
theorem jlk_ne {ls : List (Option Value)} {i j : Nat} {w : Value} (h : jlk ls i = true) (hj : ls[j]? = some (some w)) (hi : i = j + 1) : w.category = 1 := by
  subst hi
  simp only [jlk, hj] at h
  simpa using h
theorem jL.st1 {lsA : Array Slot} {n i : Nat} {v : Value} {ls : List (Option Value)} (hk : jlk ls i = true) (h : lv_has lsA n ((i, v) :: (jP ls).filter (fun q => !(q.1 == i) && !(q.1 + 1 == i && q.2.category == 2)))) : jL lsA n (ls.set i (some v)) := by
  refine ⟨h.1, h.2.1, ?_⟩
  rintro ⟨j, x⟩ hq
  have hq2 := jP_mem.mp hq
  rw [List.getElem?_set] at hq2
  refine h.2.2 (j, x) ?_
  by_cases hij : i = j
  · subst hij
    rw [if_pos rfl] at hq2
    split at hq2
    · cases hq2; exact List.mem_cons_self
    · cases hq2
  · rw [if_neg hij] at hq2
    refine List.mem_cons_of_mem _ (List.mem_filter.mpr ⟨jP_mem.mpr hq2, ?_⟩)
    have h1 : ¬ j = i := fun e => hij e.symm
    by_cases hj : j + 1 = i
    · have hc := jlk_ne hk hq2 hj.symm
      simp [h1, hc]
    · simp [h1, hj]
theorem jL.st2 {lsA : Array Slot} {n i : Nat} {v : Value} {ls : List (Option Value)} (hk : jlk ls i = true) (h : lv_has lsA n ((i, v) :: (jP ls).filter (fun q => !(q.1 == i) && (!(q.1 == i + 1) && !(q.1 + 1 == i && q.2.category == 2))))) : jL lsA n ((ls.set i (some v)).set (i + 1) none) := by
  refine ⟨h.1, h.2.1, ?_⟩
  rintro ⟨j, x⟩ hq
  have hq2 := jP_mem.mp hq
  rw [List.getElem?_set] at hq2
  by_cases hij2 : i + 1 = j
  · rw [if_pos hij2] at hq2
    split at hq2 <;> cases hq2
  · rw [if_neg hij2, List.getElem?_set] at hq2
    refine h.2.2 (j, x) ?_
    by_cases hij : i = j
    · subst hij
      rw [if_pos rfl] at hq2
      split at hq2
      · cases hq2; exact List.mem_cons_self
      · cases hq2
    · rw [if_neg hij] at hq2
      refine List.mem_cons_of_mem _ (List.mem_filter.mpr ⟨jP_mem.mpr hq2, ?_⟩)
      have h1 : ¬ j = i := fun e => hij e.symm
      have h2 : ¬ j = i + 1 := fun e => hij2 e.symm
      by_cases hj : j + 1 = i
      · have hc := jlk_ne hk hq2 hj.symm
        simp [h1, h2, hc]
      · simp [h1, h2, hj]
/-- fewer known locals -/
def jmask : List Bool → List (Option Value) → List (Option Value)
  | true :: m, x :: l => x :: jmask m l
  | false :: m, _ :: l => none :: jmask m l
  | _, _ => []
theorem jmask_at : ∀ (m : List Bool) (l : List (Option Value)) (i : Nat) (v : Value), (jmask m l)[i]? = some (some v) → l[i]? = some (some v)
  | true :: m, x :: l, 0, v, h => h
  | true :: m, x :: l, i + 1, v, h => jmask_at m l i v h
  | false :: m, x :: l, 0, v, h => by simp [jmask] at h
  | false :: m, x :: l, i + 1, v, h => jmask_at m l i v h
  | [], l, i, v, h => by simp [jmask] at h
  | true :: m, [], i, v, h => by simp [jmask] at h
  | false :: m, [], i, v, h => by simp [jmask] at h
theorem jL.mask {lsA : Array Slot} {n : Nat} {ls : List (Option Value)} (m : List Bool) (h : jL lsA n ls) : jL lsA n (jmask m ls) := ⟨h.1, h.2.1, fun q hq => h.2.2 q (jP_mem.mpr (jmask_at m ls q.1 q.2 (jP_mem.mp hq)))⟩
/-- what stands around a walk -/
def jC (tS : jTS) (M : jM) (d : Nat) (D : jD) (p : Program) (R : Room) (s : State) (m : MethodId) (args : Array Value) (meth : Method) (c : Code) : Prop :=
  p.tables.exec = Jvm.exec ∧ c.code = M.2.1 ∧ c.maxLocals = M.2.2.1 ∧ s.vm.findClass M.1.cls = some m.cls ∧ (∀ w ∈ jWG, w.before args s = true) ∧ jN s ∧ (M.1.name = "<init>" → meth.name = "<init>") ∧ jK D s ∧ jSt tS D s ∧ d ≤ R.frames ∧ 64 * d ≤ R.locals ∧ D.2.2 ≤ s.heap.size
/-- which instruction leaves with r, and that M's type bears r -/
def jRet (M : jM) (r : Option Value) (i : Instr) : Prop := match r with
  | none => i = .return_ ∧ M.2.2.2 = none
  | some (.int v) => i = .ireturn ∧ ∃ ty : FieldType, M.2.2.2 = some ty ∧ narrow ty (.int v) = .int v
  | some (.long _) => i = .lreturn ∧ M.2.2.2 = some .long
  | some (.ref _) => i = .areturn ∧ ∃ ty : FieldType, M.2.2.2 = some ty ∧ ((∃ n, ty = .object n) ∨ ∃ t, ty = .array t)
  | some .null => i = .areturn ∧ ∃ ty : FieldType, M.2.2.2 = some ty ∧ ((∃ n, ty = .object n) ∨ ∃ t, ty = .array t)
  | _ => False
def jR (M : jM) (D : jD) (Q : Option Value → jH → Prop) (p : Program) (l : Launch) (e : Env) (R : Room) (s : State) (m : MethodId) (args : Array Value) (below : List Frame) (meth : Method) (c : Code) (Z : State → Prop) : Prop :=
  ∀ (r : Option Value) (V : jH) (H : Heap) (locs : List Loc) (cells slots pc : Nat) (lsA : Array Slot) (i : Instr), Q r V → jRet M r i → jHv D H V → va_S (jOwn D) s.heap H locs → cells ≤ R.cells → slots ≤ R.slots → decode M.2.1 pc = .ok (i, 1) → W p l e R s m args below meth c H locs cells slots Z (F0 m pc lsA r.toList)
/-- the walk from pc on: locals ls, stack st, view V, room for kc cells of ks slots left; it returns, with Q -/
def J (tS : jTS) (M : jM) (d pc : Nat) (ls : List (Option Value)) (st : List Value) (V : jH) (kc ks : Nat) (Q : Option Value → jH → Prop) : Prop :=
  ∀ (D : jD) (p : Program) (l : Launch) (e : Env) (R : Room) (s : State) (m : MethodId) (args : Array Value) (below : List Frame) (meth : Method) (c : Code) (H : Heap) (locs : List Loc) (cells slots : Nat) (lsA : Array Slot) (Z : State → Prop),
    jC tS M d D p R s m args meth c → jR M D Q p l e R s m args below meth c Z → jL lsA M.2.2.1 ls → jHv D H V → va_S (jOwn D) s.heap H locs → cells + kc ≤ R.cells → slots + ks ≤ R.slots → W p l e R s m args below meth c H locs cells slots Z (F0 m pc lsA st)
section JR
variable {tS : jTS} {M : jM} {d pc : Nat} {ls : List (Option Value)} {st : List Value} {V : jH} {kc ks : Nat} {Q : Option Value → jH → Prop}
theorem J.lift {pc' : Nat} {st' : List Value} (h : ∀ {p : Program} {l : Launch} {e : Env} {R : Room} {s : State} {m : MethodId} {args : Array Value} {below : List Frame} {meth : Method} {c : Code} {H : Heap} {locs : List Loc} {cells slots : Nat} {Z : State → Prop} {lsA : Array Slot}, p.tables.exec = Jvm.exec → c.code = M.2.1 → W p l e R s m args below meth c H locs cells slots Z (F0 m pc' lsA st') → W p l e R s m args below meth c H locs cells slots Z (F0 m pc lsA st))
    (k : J tS M d pc' ls st' V kc ks Q) : J tS M d pc ls st V kc ks Q := fun D p l e R s m args below meth c H locs cells slots lsA Z C hR hl hH hS hc hs => h C.1 C.2.1 (k D p l e R s m args below meth c H locs cells slots lsA Z C hR hl hH hS hc hs)
theorem J.liftL {pc' : Nat} {st' : List Value} (h : ∀ {p : Program} {l : Launch} {e : Env} {R : Room} {s : State} {m : MethodId} {args : Array Value} {below : List Frame} {meth : Method} {c : Code} {H : Heap} {locs : List Loc} {cells slots : Nat} {Z : State → Prop} {lsA : Array Slot}, p.tables.exec = Jvm.exec → c.code = M.2.1 → jL lsA M.2.2.1 ls → W p l e R s m args below meth c H locs cells slots Z (F0 m pc' lsA st') → W p l e R s m args below meth c H locs cells slots Z (F0 m pc lsA st))
    (k : J tS M d pc' ls st' V kc ks Q) : J tS M d pc ls st V kc ks Q := fun D p l e R s m args below meth c H locs cells slots lsA Z C hR hl hH hS hc hs => h C.1 C.2.1 hl (k D p l e R s m args below meth c H locs cells slots lsA Z C hR hl hH hS hc hs)
theorem J.weaken {Q' : Option Value → jH → Prop} (h : ∀ r V, Q' r V → Q r V) (k : J tS M d pc ls st V kc ks Q') : J tS M d pc ls st V kc ks Q := fun D p l e R s m args below meth c H locs cells slots lsA Z C hR hl hH hS hc hs =>
  k D p l e R s m args below meth c H locs cells slots lsA Z C (fun r V H locs cells slots pc lsA i q => hR r V H locs cells slots pc lsA i (h r V q)) hl hH hS hc hs
theorem J.less {kc' ks' : Nat} (h1 : kc' ≤ kc) (h2 : ks' ≤ ks) (k : J tS M d pc ls st V kc' ks' Q) : J tS M d pc ls st V kc ks Q := fun D p l e R s m args below meth c H locs cells slots lsA Z C hR hl hH hS hc hs =>
  k D p l e R s m args below meth c H locs cells slots lsA Z C hR hl hH hS (by omega) (by omega)
theorem J.mask (mm : List Bool) (k : J tS M d pc (jmask mm ls) st V kc ks Q) : J tS M d pc ls st V kc ks Q := fun D p l e R s m args below meth c H locs cells slots lsA Z C hR hl hH hS hc hs =>
  k D p l e R s m args below meth c H locs cells slots lsA Z C hR (jL.mask mm hl) hH hS hc hs
theorem J.view {V' : jH} (h : ∀ a e, V' a = some e → V a = some e) (k : J tS M d pc ls st V' kc ks Q) : J tS M d pc ls st V kc ks Q := fun D p l e R s m args below meth c H locs cells slots lsA Z C hR hl hH hS hc hs =>
  k D p l e R s m args below meth c H locs cells slots lsA Z C hR hl (by obtain ⟨L, f, h1, hP, hD⟩ := hH; exact ⟨L, f, fun a e q => h1 a e (h a e q), hP, hD⟩) hS hc hs
theorem J_iconst {n : Int} {v : Int32} (hd : decode M.2.1 pc = .ok (.iconst n, 1)) (hv : Int32.ofInt n = v) (k : J tS M d (pc + 1) ls (.int v :: st) V kc ks Q) : J tS M d pc ls st V kc ks Q := J.lift (fun hx hb q => lv_iconst hx hb hd hv q) k
theorem J_bipush {n : Int} {v : Int32} (hd : decode M.2.1 pc = .ok (.bipush n, 2)) (hv : (Int8.ofInt n).toInt32 = v) (k : J tS M d (pc + 2) ls (.int v :: st) V kc ks Q) : J tS M d pc ls st V kc ks Q := J.lift (fun hx hb q => lv_bipush hx hb hd hv q) k
theorem J_sipush {n : Int} {v : Int32} (hd : decode M.2.1 pc = .ok (.sipush n, 3)) (hv : (Int16.ofInt n).toInt32 = v) (k : J tS M d (pc + 3) ls (.int v :: st) V kc ks Q) : J tS M d pc ls st V kc ks Q := J.lift (fun hx hb q => lv_sipush hx hb hd hv q) k
theorem J_lconst {n : Fin 2} {v : Int64} (hd : decode M.2.1 pc = .ok (.lconst n, 1)) (hv : Int64.ofNat (n : Nat) = v) (k : J tS M d (pc + 1) ls (.long v :: st) V kc ks Q) : J tS M d pc ls st V kc ks Q := J.lift (fun hx hb q => lv_lconst hx hb hd hv q) k
theorem J_null  (hd : decode M.2.1 pc = .ok (.aconst_null, 1)) (k : J tS M d (pc + 1) ls (.null :: st) V kc ks Q) : J tS M d pc ls st V kc ks Q := J.lift (fun hx hb q => lv_null hx hb hd q) k
theorem J_ldc {index : Nat} {v : Int32} (hw : Cond.constant M.1.cls index v ∈ jWG) (hd : decode M.2.1 pc = .ok (.ldc index, 2)) (k : J tS M d (pc + 2) ls (.int v :: st) V kc ks Q) : J tS M d pc ls st V kc ks Q := fun D p l e R s m args below meth c H locs cells slots lsA Z C hR hl hH hS hc hs => lv_ldc C.1 C.2.1 C.2.2.2.1 (C.2.2.2.2.1 _ hw) hd (k D p l e R s m args below meth c H locs cells slots lsA Z C hR hl hH hS hc hs)
theorem J_ldc2 {index : Nat} {v : Int64} (hw : Cond.constantLong M.1.cls index v ∈ jWG) (hd : decode M.2.1 pc = .ok (.ldc2_w index, 3)) (k : J tS M d (pc + 3) ls (.long v :: st) V kc ks Q) : J tS M d pc ls st V kc ks Q := fun D p l e R s m args below meth c H locs cells slots lsA Z C hR hl hH hS hc hs => lv_ldc2 C.1 C.2.1 C.2.2.2.1 (C.2.2.2.2.1 _ hw) hd (k D p l e R s m args below meth c H locs cells slots lsA Z C hR hl hH hS hc hs)
theorem J_iload_n {n : Fin 4} {x : Int32} (hd : decode M.2.1 pc = .ok (.iload_n n, 1)) (hi : ls[(n : Nat)]? = some (some (.int x))) (k : J tS M d (pc + 1) ls (.int x :: st) V kc ks Q) : J tS M d pc ls st V kc ks Q := J.liftL (fun hx hb hl q => lv_iload_n hx hb hd rfl (hl.at hi) q) k
theorem J_iload {i : Nat} {x : Int32} (hd : decode M.2.1 pc = .ok (.iload i, 2)) (hi : ls[i]? = some (some (.int x))) (k : J tS M d (pc + 2) ls (.int x :: st) V kc ks Q) : J tS M d pc ls st V kc ks Q := J.liftL (fun hx hb hl q => lv_iload hx hb hd (hl.at hi) q) k
theorem J_lload_n {n : Fin 4} {x : Int64} (hd : decode M.2.1 pc = .ok (.lload_n n, 1)) (hi : ls[(n : Nat)]? = some (some (.long x))) (k : J tS M d (pc + 1) ls (.long x :: st) V kc ks Q) : J tS M d pc ls st V kc ks Q := J.liftL (fun hx hb hl q => lv_lload_n hx hb hd rfl (hl.at hi) q) k
theorem J_lload {i : Nat} {x : Int64} (hd : decode M.2.1 pc = .ok (.lload i, 2)) (hi : ls[i]? = some (some (.long x))) (k : J tS M d (pc + 2) ls (.long x :: st) V kc ks Q) : J tS M d pc ls st V kc ks Q := J.liftL (fun hx hb hl q => lv_lload hx hb hd (hl.at hi) q) k
theorem J_aload_n {n : Fin 4} {x : Nat} (hd : decode M.2.1 pc = .ok (.aload_n n, 1)) (hi : ls[(n : Nat)]? = some (some (.ref x))) (k : J tS M d (pc + 1) ls (.ref x :: st) V kc ks Q) : J tS M d pc ls st V kc ks Q := J.liftL (fun hx hb hl q => lv_aload_n hx hb hd rfl (hl.at hi) q) k
theorem J_aload {i : Nat} {x : Nat} (hd : decode M.2.1 pc = .ok (.aload i, 2)) (hi : ls[i]? = some (some (.ref x))) (k : J tS M d (pc + 2) ls (.ref x :: st) V kc ks Q) : J tS M d pc ls st V kc ks Q := J.liftL (fun hx hb hl q => lv_aload hx hb hd (hl.at hi) q) k
theorem J_aload_nN {n : Fin 4}  (hd : decode M.2.1 pc = .ok (.aload_n n, 1)) (hi : ls[(n : Nat)]? = some (some (.null))) (k : J tS M d (pc + 1) ls (.null :: st) V kc ks Q) : J tS M d pc ls st V kc ks Q := J.liftL (fun hx hb hl q => lv_aload_nN hx hb hd rfl (hl.at hi) q) k
theorem J_aloadN {i : Nat}  (hd : decode M.2.1 pc = .ok (.aload i, 2)) (hi : ls[i]? = some (some (.null))) (k : J tS M d (pc + 2) ls (.null :: st) V kc ks Q) : J tS M d pc ls st V kc ks Q := J.liftL (fun hx hb hl q => lv_aloadN hx hb hd (hl.at hi) q) k
theorem J_istore_n {n : Fin 4} {x : Int32} (hd : decode M.2.1 pc = .ok (.istore_n n, 1)) (hk : jlk ls (n : Nat) = true) (hn : (n : Nat) < M.2.2.1) (k : J tS M d (pc + 1) (ls.set (n : Nat) (some (.int x))) st V kc ks Q) : J tS M d pc ls (.int x :: st) V kc ks Q := fun D p l e R s m args below meth c H locs cells slots lsA Z C hR hl hH hS hc hs => lv_istore_n C.1 C.2.1 hd rfl hl hn rfl (fun ls2 hl2 => k D p l e R s m args below meth c H locs cells slots ls2 Z C hR (jL.st1 hk hl2) hH hS hc hs)
theorem J_istore {i : Nat} {x : Int32} (hd : decode M.2.1 pc = .ok (.istore i, 2)) (hk : jlk ls i = true) (hn : i < M.2.2.1) (k : J tS M d (pc + 2) (ls.set i (some (.int x))) st V kc ks Q) : J tS M d pc ls (.int x :: st) V kc ks Q := fun D p l e R s m args below meth c H locs cells slots lsA Z C hR hl hH hS hc hs => lv_istore C.1 C.2.1 hd hl hn rfl (fun ls2 hl2 => k D p l e R s m args below meth c H locs cells slots ls2 Z C hR (jL.st1 hk hl2) hH hS hc hs)
theorem J_astore_n {n : Fin 4} {x : Nat} (hd : decode M.2.1 pc = .ok (.astore_n n, 1)) (hk : jlk ls (n : Nat) = true) (hn : (n : Nat) < M.2.2.1) (k : J tS M d (pc + 1) (ls.set (n : Nat) (some (.ref x))) st V kc ks Q) : J tS M d pc ls (.ref x :: st) V kc ks Q := fun D p l e R s m args below meth c H locs cells slots lsA Z C hR hl hH hS hc hs => lv_astore_n C.1 C.2.1 hd rfl hl hn rfl (fun ls2 hl2 => k D p l e R s m args below meth c H locs cells slots ls2 Z C hR (jL.st1 hk hl2) hH hS hc hs)
theorem J_astore {i : Nat} {x : Nat} (hd : decode M.2.1 pc = .ok (.astore i, 2)) (hk : jlk ls i = true) (hn : i < M.2.2.1) (k : J tS M d (pc + 2) (ls.set i (some (.ref x))) st V kc ks Q) : J tS M d pc ls (.ref x :: st) V kc ks Q := fun D p l e R s m args below meth c H locs cells slots lsA Z C hR hl hH hS hc hs => lv_astore C.1 C.2.1 hd hl hn rfl (fun ls2 hl2 => k D p l e R s m args below meth c H locs cells slots ls2 Z C hR (jL.st1 hk hl2) hH hS hc hs)
theorem J_astore_nN {n : Fin 4}  (hd : decode M.2.1 pc = .ok (.astore_n n, 1)) (hk : jlk ls (n : Nat) = true) (hn : (n : Nat) < M.2.2.1) (k : J tS M d (pc + 1) (ls.set (n : Nat) (some (.null))) st V kc ks Q) : J tS M d pc ls (.null :: st) V kc ks Q := fun D p l e R s m args below meth c H locs cells slots lsA Z C hR hl hH hS hc hs => lv_astore_nN C.1 C.2.1 hd rfl hl hn rfl (fun ls2 hl2 => k D p l e R s m args below meth c H locs cells slots ls2 Z C hR (jL.st1 hk hl2) hH hS hc hs)
theorem J_astoreN {i : Nat}  (hd : decode M.2.1 pc = .ok (.astore i, 2)) (hk : jlk ls i = true) (hn : i < M.2.2.1) (k : J tS M d (pc + 2) (ls.set i (some (.null))) st V kc ks Q) : J tS M d pc ls (.null :: st) V kc ks Q := fun D p l e R s m args below meth c H locs cells slots lsA Z C hR hl hH hS hc hs => lv_astoreN C.1 C.2.1 hd hl hn rfl (fun ls2 hl2 => k D p l e R s m args below meth c H locs cells slots ls2 Z C hR (jL.st1 hk hl2) hH hS hc hs)
theorem J_lstore_n {n : Fin 4} {x : Int64} (hd : decode M.2.1 pc = .ok (.lstore_n n, 1)) (hk : jlk ls (n : Nat) = true) (hn : (n : Nat) + 1 < M.2.2.1) (k : J tS M d (pc + 1) ((ls.set (n : Nat) (some (.long x))).set ((n : Nat) + 1) none) st V kc ks Q) : J tS M d pc ls (.long x :: st) V kc ks Q := fun D p l e R s m args below meth c H locs cells slots lsA Z C hR hl hH hS hc hs => lv_lstore_n C.1 C.2.1 hd rfl hl hn rfl (fun ls2 hl2 => k D p l e R s m args below meth c H locs cells slots ls2 Z C hR (jL.st2 hk hl2) hH hS hc hs)
theorem J_lstore {i : Nat} {x : Int64} (hd : decode M.2.1 pc = .ok (.lstore i, 2)) (hk : jlk ls i = true) (hn : i + 1 < M.2.2.1) (k : J tS M d (pc + 2) ((ls.set i (some (.long x))).set (i + 1) none) st V kc ks Q) : J tS M d pc ls (.long x :: st) V kc ks Q := fun D p l e R s m args below meth c H locs cells slots lsA Z C hR hl hH hS hc hs => lv_lstore C.1 C.2.1 hd hl hn rfl (fun ls2 hl2 => k D p l e R s m args below meth c H locs cells slots ls2 Z C hR (jL.st2 hk hl2) hH hS hc hs)
theorem J_iinc {i : Nat} {n : Int} {x v : Int32} (hd : decode M.2.1 pc = .ok (.iinc i n, 3)) (hi : ls[i]? = some (some (.int x))) (hv : x + Int32.ofInt n = v) (hk : jlk ls i = true) (hn : i < M.2.2.1) (k : J tS M d (pc + 3) (ls.set i (some (.int v))) st V kc ks Q) : J tS M d pc ls st V kc ks Q := fun D p l e R s m args below meth c H locs cells slots lsA Z C hR hl hH hS hc hs => by
  obtain ⟨j, hj⟩ := List.getElem?_of_mem (jP_mem.mpr hi)
  exact lv_iinc C.1 C.2.1 hd hl hj hv hn rfl (fun ls2 hl2 => k D p l e R s m args below meth c H locs cells slots ls2 Z C hR (jL.st1 hk hl2) hH hS hc hs)
theorem J_iadd {x y : Int32} (hd : decode M.2.1 pc = .ok (.iadd, 1)) (k : J tS M d (pc + 1) ls (.int (x + y) :: st) V kc ks Q) : J tS M d pc ls (.int y :: .int x :: st) V kc ks Q := J.lift (fun hx hb q => lv_iadd hx hb hd q) k
theorem J_isub {x y : Int32} (hd : decode M.2.1 pc = .ok (.isub, 1)) (k : J tS M d (pc + 1) ls (.int (x - y) :: st) V kc ks Q) : J tS M d pc ls (.int y :: .int x :: st) V kc ks Q := J.lift (fun hx hb q => lv_isub hx hb hd q) k
theorem J_imul {x y : Int32} (hd : decode M.2.1 pc = .ok (.imul, 1)) (k : J tS M d (pc + 1) ls (.int (x * y) :: st) V kc ks Q) : J tS M d pc ls (.int y :: .int x :: st) V kc ks Q := J.lift (fun hx hb q => lv_imul hx hb hd q) k
theorem J_iand {x y : Int32} (hd : decode M.2.1 pc = .ok (.iand, 1)) (k : J tS M d (pc + 1) ls (.int (x &&& y) :: st) V kc ks Q) : J tS M d pc ls (.int y :: .int x :: st) V kc ks Q := J.lift (fun hx hb q => lv_iand hx hb hd q) k
theorem J_ior {x y : Int32} (hd : decode M.2.1 pc = .ok (.ior, 1)) (k : J tS M d (pc + 1) ls (.int (x ||| y) :: st) V kc ks Q) : J tS M d pc ls (.int y :: .int x :: st) V kc ks Q := J.lift (fun hx hb q => lv_ior hx hb hd q) k
theorem J_ixor {x y : Int32} (hd : decode M.2.1 pc = .ok (.ixor, 1)) (k : J tS M d (pc + 1) ls (.int (x ^^^ y) :: st) V kc ks Q) : J tS M d pc ls (.int y :: .int x :: st) V kc ks Q := J.lift (fun hx hb q => lv_ixor hx hb hd q) k
theorem J_ishl {x y : Int32} (hd : decode M.2.1 pc = .ok (.ishl, 1)) (k : J tS M d (pc + 1) ls (.int (x <<< (y &&& 31)) :: st) V kc ks Q) : J tS M d pc ls (.int y :: .int x :: st) V kc ks Q := J.lift (fun hx hb q => lv_ishl hx hb hd q) k
theorem J_ishr {x y : Int32} (hd : decode M.2.1 pc = .ok (.ishr, 1)) (k : J tS M d (pc + 1) ls (.int (x >>> (y &&& 31)) :: st) V kc ks Q) : J tS M d pc ls (.int y :: .int x :: st) V kc ks Q := J.lift (fun hx hb q => lv_ishr hx hb hd q) k
theorem J_ladd {x y : Int64} (hd : decode M.2.1 pc = .ok (.ladd, 1)) (k : J tS M d (pc + 1) ls (.long (x + y) :: st) V kc ks Q) : J tS M d pc ls (.long y :: .long x :: st) V kc ks Q := J.lift (fun hx hb q => lv_ladd hx hb hd q) k
theorem J_lsub {x y : Int64} (hd : decode M.2.1 pc = .ok (.lsub, 1)) (k : J tS M d (pc + 1) ls (.long (x - y) :: st) V kc ks Q) : J tS M d pc ls (.long y :: .long x :: st) V kc ks Q := J.lift (fun hx hb q => lv_lsub hx hb hd q) k
theorem J_lmul {x y : Int64} (hd : decode M.2.1 pc = .ok (.lmul, 1)) (k : J tS M d (pc + 1) ls (.long (x * y) :: st) V kc ks Q) : J tS M d pc ls (.long y :: .long x :: st) V kc ks Q := J.lift (fun hx hb q => lv_lmul hx hb hd q) k
theorem J_land {x y : Int64} (hd : decode M.2.1 pc = .ok (.land, 1)) (k : J tS M d (pc + 1) ls (.long (x &&& y) :: st) V kc ks Q) : J tS M d pc ls (.long y :: .long x :: st) V kc ks Q := J.lift (fun hx hb q => lv_land hx hb hd q) k
theorem J_lor {x y : Int64} (hd : decode M.2.1 pc = .ok (.lor, 1)) (k : J tS M d (pc + 1) ls (.long (x ||| y) :: st) V kc ks Q) : J tS M d pc ls (.long y :: .long x :: st) V kc ks Q := J.lift (fun hx hb q => lv_lor hx hb hd q) k
theorem J_lxor {x y : Int64} (hd : decode M.2.1 pc = .ok (.lxor, 1)) (k : J tS M d (pc + 1) ls (.long (x ^^^ y) :: st) V kc ks Q) : J tS M d pc ls (.long y :: .long x :: st) V kc ks Q := J.lift (fun hx hb q => lv_lxor hx hb hd q) k
theorem J_lcmp {x y : Int64} (hd : decode M.2.1 pc = .ok (.lcmp, 1)) (k : J tS M d (pc + 1) ls (.int (lg_cmp x y) :: st) V kc ks Q) : J tS M d pc ls (.long y :: .long x :: st) V kc ks Q := J.lift (fun hx hb q => W.lcmp hx hb hd q) k
theorem J_idiv {x y : Int32} (hd : decode M.2.1 pc = .ok (.idiv, 1)) (hne : ¬ y = 0) (k : J tS M d (pc + 1) ls (.int (x / y) :: st) V kc ks Q) : J tS M d pc ls (.int y :: .int x :: st) V kc ks Q := J.lift (fun hx hb q => lv_idiv hx hb hd hne q) k
theorem J_irem {x y : Int32} (hd : decode M.2.1 pc = .ok (.irem, 1)) (hne : ¬ y = 0) (k : J tS M d (pc + 1) ls (.int (x - x / y * y) :: st) V kc ks Q) : J tS M d pc ls (.int y :: .int x :: st) V kc ks Q := J.lift (fun hx hb q => lv_irem hx hb hd hne q) k
theorem J_ineg {x : Int32} (hd : decode M.2.1 pc = .ok (.ineg, 1)) (k : J tS M d (pc + 1) ls (.int (-x) :: st) V kc ks Q) : J tS M d pc ls (.int x :: st) V kc ks Q := J.lift (fun hx hb q => lv_ineg hx hb hd q) k
theorem J_lneg {x : Int64} (hd : decode M.2.1 pc = .ok (.lneg, 1)) (k : J tS M d (pc + 1) ls (.long (-x) :: st) V kc ks Q) : J tS M d pc ls (.long x :: st) V kc ks Q := J.lift (fun hx hb q => lv_lneg hx hb hd q) k
theorem J_iushr {x y v : Int32} (hd : decode M.2.1 pc = .ok (.iushr, 1)) (hv : (x.toUInt32 >>> (y.toUInt32 &&& Int32.toUInt32 31)).toInt32 = v) (k : J tS M d (pc + 1) ls (.int v :: st) V kc ks Q) : J tS M d pc ls (.int y :: .int x :: st) V kc ks Q := J.lift (fun hx hb q => lv_iushr hx hb hd hv q) k
theorem J_lushr {x v : Int64} {y : Int32} (hd : decode M.2.1 pc = .ok (.lushr, 1)) (hv : (x.toUInt64 >>> (y.toInt64.toUInt64 &&& Int64.toUInt64 63)).toInt64 = v) (k : J tS M d (pc + 1) ls (.long v :: st) V kc ks Q) : J tS M d pc ls (.int y :: .long x :: st) V kc ks Q := J.lift (fun hx hb q => lv_lushr hx hb hd hv q) k
theorem J_lshl {x v : Int64} {y : Int32} (hd : decode M.2.1 pc = .ok (.lshl, 1)) (hv : x <<< (y.toInt64 &&& 63) = v) (k : J tS M d (pc + 1) ls (.long v :: st) V kc ks Q) : J tS M d pc ls (.int y :: .long x :: st) V kc ks Q := J.lift (fun hx hb q => lv_lshl hx hb hd hv q) k
theorem J_lshr {x v : Int64} {y : Int32} (hd : decode M.2.1 pc = .ok (.lshr, 1)) (hv : x >>> (y.toInt64 &&& 63) = v) (k : J tS M d (pc + 1) ls (.long v :: st) V kc ks Q) : J tS M d pc ls (.int y :: .long x :: st) V kc ks Q := J.lift (fun hx hb q => lv_lshr hx hb hd hv q) k
theorem J_i2l {x : Int32} {v : Int64} (hd : decode M.2.1 pc = .ok (.i2l, 1)) (hv : x.toInt64 = v) (k : J tS M d (pc + 1) ls (.long v :: st) V kc ks Q) : J tS M d pc ls (.int x :: st) V kc ks Q := J.lift (fun hx hb q => lv_i2l hx hb hd hv q) k
theorem J_l2i {x : Int64} {v : Int32} (hd : decode M.2.1 pc = .ok (.l2i, 1)) (hv : x.toInt32 = v) (k : J tS M d (pc + 1) ls (.int v :: st) V kc ks Q) : J tS M d pc ls (.long x :: st) V kc ks Q := J.lift (fun hx hb q => lv_l2i hx hb hd hv q) k
theorem J_i2b {x v : Int32} (hd : decode M.2.1 pc = .ok (.i2b, 1)) (hv : x.toInt8.toInt32 = v) (k : J tS M d (pc + 1) ls (.int v :: st) V kc ks Q) : J tS M d pc ls (.int x :: st) V kc ks Q := J.lift (fun hx hb q => lv_i2b hx hb hd hv q) k
theorem J_dup {a : Value} (hd : decode M.2.1 pc = .ok (.dup, 1)) (ha : a.category = 1) (k : J tS M d (pc + 1) ls (a :: a :: st) V kc ks Q) : J tS M d pc ls (a :: st) V kc ks Q := J.lift (fun hx hb q => lv_dup hx hb hd ha q) k
theorem J_pop {a : Value} (hd : decode M.2.1 pc = .ok (.pop, 1)) (ha : a.category = 1) (k : J tS M d (pc + 1) ls st V kc ks Q) : J tS M d pc ls (a :: st) V kc ks Q := J.lift (fun hx hb q => lv_pop hx hb hd ha q) k
theorem J_dup_x1 {a b : Value} (hd : decode M.2.1 pc = .ok (.dup_x1, 1)) (ha : a.category = 1) (hb2 : b.category = 1) (k : J tS M d (pc + 1) ls (a :: b :: a :: st) V kc ks Q) : J tS M d pc ls (a :: b :: st) V kc ks Q := J.lift (fun hx hb q => lv_dup_x1 hx hb hd ha hb2 q) k
theorem J_dup_x2 {a b v : Value} (hd : decode M.2.1 pc = .ok (.dup_x2, 1)) (ha : a.category = 1) (hb2 : b.category = 1) (hv : v.category = 1) (k : J tS M d (pc + 1) ls (a :: b :: v :: a :: st) V kc ks Q) : J tS M d pc ls (a :: b :: v :: st) V kc ks Q := J.lift (fun hx hb q => lv_dup_x2 hx hb hd ha hb2 hv q) k
theorem J_dup2 {a b : Value} (hd : decode M.2.1 pc = .ok (.dup2, 1)) (ha : a.category = 1) (hb2 : b.category = 1) (k : J tS M d (pc + 1) ls (a :: b :: a :: b :: st) V kc ks Q) : J tS M d pc ls (a :: b :: st) V kc ks Q := J.lift (fun hx hb q => lv_dup2_11 hx hb hd ha hb2 q) k
theorem J_dup2L {a : Value} (hd : decode M.2.1 pc = .ok (.dup2, 1)) (ha : a.category = 2) (k : J tS M d (pc + 1) ls (a :: a :: st) V kc ks Q) : J tS M d pc ls (a :: st) V kc ks Q := J.lift (fun hx hb q => lv_dup2_2 hx hb hd ha q) k
theorem J_pop2L {a : Value} (hd : decode M.2.1 pc = .ok (.pop2, 1)) (ha : a.category = 2) (k : J tS M d (pc + 1) ls st V kc ks Q) : J tS M d pc ls (a :: st) V kc ks Q := J.lift (fun hx hb q => lv_pop2_2 hx hb hd ha q) k
theorem J_dup2_x1L {a b : Value} (hd : decode M.2.1 pc = .ok (.dup2_x1, 1)) (ha : a.category = 2) (hb2 : b.category = 1) (k : J tS M d (pc + 1) ls (a :: b :: a :: st) V kc ks Q) : J tS M d pc ls (a :: b :: st) V kc ks Q := J.lift (fun hx hb q => lv_dup2_x1_2 hx hb hd ha hb2 q) k
theorem J_dup2_x2L {a b v : Value} (hd : decode M.2.1 pc = .ok (.dup2_x2, 1)) (ha : a.category = 2) (hb2 : b.category = 1) (hv : v.category = 1) (k : J tS M d (pc + 1) ls (a :: b :: v :: a :: st) V kc ks Q) : J tS M d pc ls (a :: b :: v :: st) V kc ks Q := J.lift (fun hx hb q => lv_dup2_x2_2 hx hb hd ha hb2 hv q) k
theorem J_if_eq {x : Int32} {off : Int} {tgt : Nat} (hd : decode M.2.1 pc = .ok (.ifCond .eq off, 3)) (ht : (pc : Int) + off = (tgt : Int)) (kt : x = 0 → J tS M d tgt ls st V kc ks Q) (kf : ¬ x = 0 → J tS M d (pc + 3) ls st V kc ks Q) : J tS M d pc ls (.int x :: st) V kc ks Q := fun D p l e R s m args below meth c H locs cells slots lsA Z C hR hl hH hS hc hs => lv_if_eq C.1 C.2.1 hd ht (fun h => kt h D p l e R s m args below meth c H locs cells slots lsA Z C hR hl hH hS hc hs) (fun h => kf h D p l e R s m args below meth c H locs cells slots lsA Z C hR hl hH hS hc hs)
theorem J_icmp_eq {x y : Int32} {off : Int} {tgt : Nat} (hd : decode M.2.1 pc = .ok (.if_icmp .eq off, 3)) (ht : (pc : Int) + off = (tgt : Int)) (kt : x = y → J tS M d tgt ls st V kc ks Q) (kf : ¬ x = y → J tS M d (pc + 3) ls st V kc ks Q) : J tS M d pc ls (.int y :: .int x :: st) V kc ks Q := fun D p l e R s m args below meth c H locs cells slots lsA Z C hR hl hH hS hc hs => lv_icmp_eq C.1 C.2.1 hd ht (fun h => kt h D p l e R s m args below meth c H locs cells slots lsA Z C hR hl hH hS hc hs) (fun h => kf h D p l e R s m args below meth c H locs cells slots lsA Z C hR hl hH hS hc hs)
theorem J_if_ne {x : Int32} {off : Int} {tgt : Nat} (hd : decode M.2.1 pc = .ok (.ifCond .ne off, 3)) (ht : (pc : Int) + off = (tgt : Int)) (kt : ¬ x = 0 → J tS M d tgt ls st V kc ks Q) (kf : x = 0 → J tS M d (pc + 3) ls st V kc ks Q) : J tS M d pc ls (.int x :: st) V kc ks Q := fun D p l e R s m args below meth c H locs cells slots lsA Z C hR hl hH hS hc hs => lv_if_ne C.1 C.2.1 hd ht (fun h => kt h D p l e R s m args below meth c H locs cells slots lsA Z C hR hl hH hS hc hs) (fun h => kf h D p l e R s m args below meth c H locs cells slots lsA Z C hR hl hH hS hc hs)
theorem J_icmp_ne {x y : Int32} {off : Int} {tgt : Nat} (hd : decode M.2.1 pc = .ok (.if_icmp .ne off, 3)) (ht : (pc : Int) + off = (tgt : Int)) (kt : ¬ x = y → J tS M d tgt ls st V kc ks Q) (kf : x = y → J tS M d (pc + 3) ls st V kc ks Q) : J tS M d pc ls (.int y :: .int x :: st) V kc ks Q := fun D p l e R s m args below meth c H locs cells slots lsA Z C hR hl hH hS hc hs => lv_icmp_ne C.1 C.2.1 hd ht (fun h => kt h D p l e R s m args below meth c H locs cells slots lsA Z C hR hl hH hS hc hs) (fun h => kf h D p l e R s m args below meth c H locs cells slots lsA Z C hR hl hH hS hc hs)
theorem J_if_lt {x : Int32} {off : Int} {tgt : Nat} (hd : decode M.2.1 pc = .ok (.ifCond .lt off, 3)) (ht : (pc : Int) + off = (tgt : Int)) (kt : x < 0 → J tS M d tgt ls st V kc ks Q) (kf : ¬ x < 0 → J tS M d (pc + 3) ls st V kc ks Q) : J tS M d pc ls (.int x :: st) V kc ks Q := fun D p l e R s m args below meth c H locs cells slots lsA Z C hR hl hH hS hc hs => lv_if_lt C.1 C.2.1 hd ht (fun h => kt h D p l e R s m args below meth c H locs cells slots lsA Z C hR hl hH hS hc hs) (fun h => kf h D p l e R s m args below meth c H locs cells slots lsA Z C hR hl hH hS hc hs)
theorem J_icmp_lt {x y : Int32} {off : Int} {tgt : Nat} (hd : decode M.2.1 pc = .ok (.if_icmp .lt off, 3)) (ht : (pc : Int) + off = (tgt : Int)) (kt : x < y → J tS M d tgt ls st V kc ks Q) (kf : ¬ x < y → J tS M d (pc + 3) ls st V kc ks Q) : J tS M d pc ls (.int y :: .int x :: st) V kc ks Q := fun D p l e R s m args below meth c H locs cells slots lsA Z C hR hl hH hS hc hs => lv_icmp_lt C.1 C.2.1 hd ht (fun h => kt h D p l e R s m args below meth c H locs cells slots lsA Z C hR hl hH hS hc hs) (fun h => kf h D p l e R s m args below meth c H locs cells slots lsA Z C hR hl hH hS hc hs)
theorem J_if_ge {x : Int32} {off : Int} {tgt : Nat} (hd : decode M.2.1 pc = .ok (.ifCond .ge off, 3)) (ht : (pc : Int) + off = (tgt : Int)) (kt : 0 ≤ x → J tS M d tgt ls st V kc ks Q) (kf : ¬ 0 ≤ x → J tS M d (pc + 3) ls st V kc ks Q) : J tS M d pc ls (.int x :: st) V kc ks Q := fun D p l e R s m args below meth c H locs cells slots lsA Z C hR hl hH hS hc hs => lv_if_ge C.1 C.2.1 hd ht (fun h => kt h D p l e R s m args below meth c H locs cells slots lsA Z C hR hl hH hS hc hs) (fun h => kf h D p l e R s m args below meth c H locs cells slots lsA Z C hR hl hH hS hc hs)
theorem J_icmp_ge {x y : Int32} {off : Int} {tgt : Nat} (hd : decode M.2.1 pc = .ok (.if_icmp .ge off, 3)) (ht : (pc : Int) + off = (tgt : Int)) (kt : y ≤ x → J tS M d tgt ls st V kc ks Q) (kf : ¬ y ≤ x → J tS M d (pc + 3) ls st V kc ks Q) : J tS M d pc ls (.int y :: .int x :: st) V kc ks Q := fun D p l e R s m args below meth c H locs cells slots lsA Z C hR hl hH hS hc hs => lv_icmp_ge C.1 C.2.1 hd ht (fun h => kt h D p l e R s m args below meth c H locs cells slots lsA Z C hR hl hH hS hc hs) (fun h => kf h D p l e R s m args below meth c H locs cells slots lsA Z C hR hl hH hS hc hs)
theorem J_if_gt {x : Int32} {off : Int} {tgt : Nat} (hd : decode M.2.1 pc = .ok (.ifCond .gt off, 3)) (ht : (pc : Int) + off = (tgt : Int)) (kt : 0 < x → J tS M d tgt ls st V kc ks Q) (kf : ¬ 0 < x → J tS M d (pc + 3) ls st V kc ks Q) : J tS M d pc ls (.int x :: st) V kc ks Q := fun D p l e R s m args below meth c H locs cells slots lsA Z C hR hl hH hS hc hs => lv_if_gt C.1 C.2.1 hd ht (fun h => kt h D p l e R s m args below meth c H locs cells slots lsA Z C hR hl hH hS hc hs) (fun h => kf h D p l e R s m args below meth c H locs cells slots lsA Z C hR hl hH hS hc hs)
theorem J_icmp_gt {x y : Int32} {off : Int} {tgt : Nat} (hd : decode M.2.1 pc = .ok (.if_icmp .gt off, 3)) (ht : (pc : Int) + off = (tgt : Int)) (kt : y < x → J tS M d tgt ls st V kc ks Q) (kf : ¬ y < x → J tS M d (pc + 3) ls st V kc ks Q) : J tS M d pc ls (.int y :: .int x :: st) V kc ks Q := fun D p l e R s m args below meth c H locs cells slots lsA Z C hR hl hH hS hc hs => lv_icmp_gt C.1 C.2.1 hd ht (fun h => kt h D p l e R s m args below meth c H locs cells slots lsA Z C hR hl hH hS hc hs) (fun h => kf h D p l e R s m args below meth c H locs cells slots lsA Z C hR hl hH hS hc hs)
theorem J_if_le {x : Int32} {off : Int} {tgt : Nat} (hd : decode M.2.1 pc = .ok (.ifCond .le off, 3)) (ht : (pc : Int) + off = (tgt : Int)) (kt : x ≤ 0 → J tS M d tgt ls st V kc ks Q) (kf : ¬ x ≤ 0 → J tS M d (pc + 3) ls st V kc ks Q) : J tS M d pc ls (.int x :: st) V kc ks Q := fun D p l e R s m args below meth c H locs cells slots lsA Z C hR hl hH hS hc hs => lv_if_le C.1 C.2.1 hd ht (fun h => kt h D p l e R s m args below meth c H locs cells slots lsA Z C hR hl hH hS hc hs) (fun h => kf h D p l e R s m args below meth c H locs cells slots lsA Z C hR hl hH hS hc hs)
theorem J_icmp_le {x y : Int32} {off : Int} {tgt : Nat} (hd : decode M.2.1 pc = .ok (.if_icmp .le off, 3)) (ht : (pc : Int) + off = (tgt : Int)) (kt : x ≤ y → J tS M d tgt ls st V kc ks Q) (kf : ¬ x ≤ y → J tS M d (pc + 3) ls st V kc ks Q) : J tS M d pc ls (.int y :: .int x :: st) V kc ks Q := fun D p l e R s m args below meth c H locs cells slots lsA Z C hR hl hH hS hc hs => lv_icmp_le C.1 C.2.1 hd ht (fun h => kt h D p l e R s m args below meth c H locs cells slots lsA Z C hR hl hH hS hc hs) (fun h => kf h D p l e R s m args below meth c H locs cells slots lsA Z C hR hl hH hS hc hs)
theorem J_goto {off : Int} {tgt : Nat} (hd : decode M.2.1 pc = .ok (.goto off, 3)) (ht : (pc : Int) + off = (tgt : Int)) (k : J tS M d tgt ls st V kc ks Q) : J tS M d pc ls st V kc ks Q := J.lift (fun hx hb q => lv_goto hx hb hd ht q) k
theorem J_ifnull {x : Nat} {off : Int} (hd : decode M.2.1 pc = .ok (.ifnull off, 3)) (k : J tS M d (pc + 3) ls st V kc ks Q) : J tS M d pc ls (.ref x :: st) V kc ks Q := J.lift (fun hx hb q => lv_ifnull hx hb hd q) k
theorem J_ifnullN {off : Int} {tgt : Nat} (hd : decode M.2.1 pc = .ok (.ifnull off, 3)) (ht : (pc : Int) + off = (tgt : Int)) (k : J tS M d tgt ls st V kc ks Q) : J tS M d pc ls (.null :: st) V kc ks Q := J.lift (fun hx hb q => lv_ifnullN hx hb hd ht q) k
theorem J_ifnonnull {x : Nat} {off : Int} {tgt : Nat} (hd : decode M.2.1 pc = .ok (.ifnonnull off, 3)) (ht : (pc : Int) + off = (tgt : Int)) (k : J tS M d tgt ls st V kc ks Q) : J tS M d pc ls (.ref x :: st) V kc ks Q := J.lift (fun hx hb q => lv_ifnonnull hx hb hd ht q) k
theorem J_ifnonnullN {off : Int} (hd : decode M.2.1 pc = .ok (.ifnonnull off, 3)) (k : J tS M d (pc + 3) ls st V kc ks Q) : J tS M d pc ls (.null :: st) V kc ks Q := J.lift (fun hx hb q => lv_ifnonnullN hx hb hd q) k
theorem J_lookup {dflt : Int} {ps : Array (Int × Int)} {len : Nat} {x : Int32} {off : Int} {tgt : Nat} (hd : decode M.2.1 pc = .ok (.lookupswitch dflt ps, len)) (hp : (ps.toList.zip (ps.toList.drop 1)).all (fun (a, next) => a.1 < next.1) = true) (ho : Op.lookupswitch.offset ps.toList dflt x.toInt = off) (ht : (pc : Int) + off = (tgt : Int)) (k : J tS M d tgt ls st V kc ks Q) : J tS M d pc ls (.int x :: st) V kc ks Q := J.lift (fun hx hb q => lv_lookup hx hb hd hp ho ht q) k
theorem J_tableOut {dflt lo hi : Int} {offs : Array Int} {len : Nat} {x : Int32} {tgt : Nat} (hd : decode M.2.1 pc = .ok (.tableswitch dflt lo hi offs, len)) (h : x.toInt < lo ∨ hi < x.toInt) (ht : (pc : Int) + dflt = (tgt : Int)) (k : J tS M d tgt ls st V kc ks Q) : J tS M d pc ls (.int x :: st) V kc ks Q := J.lift (fun hx hb q => lv_tableOut hx hb hd h ht q) k
theorem J_tableIn {dflt lo hi : Int} {offs : Array Int} {len : Nat} {x : Int32} {off : Int} {tgt : Nat} (hd : decode M.2.1 pc = .ok (.tableswitch dflt lo hi offs, len)) (h1 : ¬ x.toInt < lo) (h2 : ¬ hi < x.toInt) (ho : offs[(x.toInt - lo).toNat]? = some off) (ht : (pc : Int) + off = (tgt : Int)) (k : J tS M d tgt ls st V kc ks Q) : J tS M d pc ls (.int x :: st) V kc ks Q := J.lift (fun hx hb q => lv_tableIn hx hb hd h1 h2 ho ht q) k
theorem jHv.get {D : jD} {H : Heap} {V : jH} {a : Nat} {e : jE} (h : jHv D H V) (hV : V a = some e) : va_P D.1 jcl [(a, jc D.2.1 e)] H ∧ D.2.2 ≤ a ∧ a < H.size := by
  obtain ⟨L, f, h1, hP, hD⟩ := h
  obtain ⟨hL, he⟩ := h1 a e hV
  obtain ⟨k, hk⟩ := va_pl_get (X := []) (f := f) hL
  refine ⟨fun j q hj => ?_, hD.2 k _ hk, (hP k _ hk).lt⟩
  have hz : j < 1 := (List.getElem?_eq_some_iff.mp hj).1
  rw [show j = 0 by omega] at hj
  cases hj
  rw [← he]
  exact hP k _ hk
theorem jHv.put {D : jD} {H1 : Heap} {V : jH} {L : List Nat} {f : Nat → va_E} {a k : Nat} {e' : jE} (h1 : jAt D V L f) (hD : va_D (jOwn D) (jw L f)) (hL : a ∈ L) (hk : (jw L f)[k]? = some (a, f a)) (hP1 : va_P D.1 jcl ((jw L f).set k (a, jc D.2.1 e')) H1) (hD1 : va_D (jOwn D) ((jw L f).set k (a, jc D.2.1 e'))) : jHv D H1 (jup V a e') := by
  have hs : (jw L f).set k (a, jc D.2.1 e') = jw L (va_up f a (jc D.2.1 e')) := va_pl_set hD hL hk
  rw [hs] at hP1 hD1
  refine ⟨L, _, fun b e hb => ?_, hP1, hD1⟩
  by_cases hba : b = a
  · subst hba
    rw [jup_self] at hb
    cases hb
    exact ⟨hL, va_up_self _ _ _⟩
  · rw [jup_ne hba] at hb
    exact ⟨(h1 b e hb).1, (va_up_ne _ _ hba).trans (h1 b e hb).2⟩
theorem jHv.new {D : jD} {H1 : Heap} {V : jH} {L : List Nat} {f : Nat → va_E} {q : Nat} {e' : jE} (h1 : jAt D V L f) (hq : q ∉ L) (hP1 : va_P D.1 jcl (jw L f ++ [(q, jc D.2.1 e')]) H1) (hD1 : va_D (jOwn D) (jw L f ++ [(q, jc D.2.1 e')])) : jHv D H1 (jup V q e') := by
  have hs : jw L f ++ [(q, jc D.2.1 e')] = jw (L ++ [q]) (va_up f q (jc D.2.1 e')) := va_pl_push hq
  rw [hs] at hP1 hD1
  refine ⟨_, _, fun b e hb => ?_, hP1, hD1⟩
  by_cases hba : b = q
  · subst hba
    rw [jup_self] at hb
    cases hb
    exact ⟨List.mem_append_right _ List.mem_cons_self, va_up_self _ _ _⟩
  · rw [jup_ne hba] at hb
    exact ⟨List.mem_append_left _ (h1 b e hb).1, (va_up_ne _ _ hba).trans (h1 b e hb).2⟩
theorem jHv.none {D : jD} {V : jH} {L : List Nat} {f : Nat → va_E} {q : Nat} (h1 : jAt D V L f) (hq : q ∉ L) : V q = none := by
  cases h : V q with
  | none => rfl
  | some e => exact absurd (h1 q e h).1 hq
theorem jD_new {A : Nat → Prop} {L : List Nat} {f : Nat → va_E} {q : Nat} {e : va_E} (hD : va_D A (jw L f ++ [(q, e)])) : q ∉ L := by
  intro h
  obtain ⟨k, hk⟩ := va_pl_get (X := []) (f := f) h
  have hl : k < (jw L f).length := (List.getElem?_eq_some_iff.mp hk).1
  have a1 : (jw L f ++ [(q, e)])[k]? = some (q, f q) := by rw [List.getElem?_append_left hl]; exact hk
  have a2 : (jw L f ++ [(q, e)])[(jw L f).length]? = some (q, e) := by rw [List.getElem?_append_right (Nat.le_refl _), Nat.sub_self]; rfl
  have := hD.1 _ _ _ _ a1 a2 rfl
  omega
theorem jT_at {D : jD} {t : Nat} {ty : FieldType} (h : jT[t]? = some ty) : (jtys D.2.1)[t]? = some (D.2.1 t, ty) := by
  unfold jtys
  rw [List.getElem?_map, List.getElem?_zipIdx, h]
  simp
/-- field k of class ci, by the pool of own -/
def jF (own : String) (index ci k : Nat) : Prop := ∃ q : vw_C, jcl[ci]? = some q ∧ (∀ w ∈ u_ws q.1 q.2.1 q.2.2, w ∈ jWG) ∧ Cond.fieldLink own index (q.2.1 k).1 (q.2.1 k).2.1 (q.2.1 k).2.2.1 ∈ jWG ∧ k < q.2.2
/-- its type, whether it's final -/
def jFt (ci k : Nat) (fin : Bool) (ty : FieldType) : Prop := ∃ (q : vw_C) (ty0 : Nat → FieldType), jcl[ci]? = some q ∧ (∀ k, k < q.2.2 → parseFieldDescriptor (q.2.1 k).2.2.1 = some (ty0 k)) ∧ (∀ a, a < q.2.2 → ∀ b, b < q.2.2 → a ≠ b → (q.2.1 a).2.1 ≠ (q.2.1 b).2.1) ∧ (q.2.1 k).2.2.2 = fin ∧ parseFieldDescriptor (q.2.1 k).2.2.1 = some ty
theorem J_get {index ci k a : Nat} {fs : List Value} {v : Value} (hF : jF M.1.cls index ci k) (hd : decode M.2.1 pc = .ok (.getfield index, 3)) (hV : V a = some (.inr (ci, fs))) (hv : fs[k]? = some v) (kk : J tS M d (pc + 3) ls (v :: st) V kc ks Q) : J tS M d pc ls (.ref a :: st) V kc ks Q := fun D p l e R s m args below meth c H locs cells slots lsA Z C hR hl hH hS hc hs => by
  obtain ⟨⟨Cn, T, N⟩, hc9, hin, hw, hk⟩ := hF
  obtain ⟨hP, -, -⟩ := hH.get hV
  exact va_get (D := D.1) (cl := jcl) (C := Cn) (T := T) (N := N) C.1 C.2.1 C.2.2.2.2.1 hin C.2.2.2.1 C.2.2.2.2.2.2.2.1 hP 0 rfl hc9 k hk (C.2.2.2.2.1 _ hw) (fun _ h => h) hv hd (kk D p l e R s m args below meth c H locs cells slots lsA Z C hR hl hH hS hc hs)
theorem J_put {index ci k a : Nat} {fs : List Value} {v : Value} {ty : FieldType} (hF : jF M.1.cls index ci k) (hT : jFt ci k false ty) (hd : decode M.2.1 pc = .ok (.putfield index, 3)) (hV : V a = some (.inr (ci, fs))) (hn : narrow ty v = v) (hf : fits ty v = true) (hl9 : k < fs.length) (kk : J tS M d (pc + 3) ls st (jup V a (.inr (ci, fs.set k v))) kc ks Q) : J tS M d pc ls (v :: .ref a :: st) V kc ks Q := fun D p l e R s m args below meth c H locs cells slots lsA Z C hR hl hH hS hc hs => by
  obtain ⟨⟨Cn, T, N⟩, hc9, hin, hw, hk⟩ := hF
  obtain ⟨q9, ty0, hc8, hty, hnm, hfin, hdt⟩ := hT
  cases hc9.symm.trans hc8
  obtain ⟨L, f, h1, hP, hD⟩ := hH
  obtain ⟨hL, he⟩ := h1 a _ hV
  obtain ⟨j, hj⟩ := va_pl_get (X := []) (f := f) hL
  refine va_put (D := D.1) (cl := jcl) (C := Cn) (T := T) (N := N) C.1 C.2.1 C.2.2.2.2.1 hin ty0 hty hnm C.2.2.2.1 C.2.2.2.2.2.2.2.1 hP hD hS j (hj.trans (by rw [he]; rfl)) hc9 k hk (C.2.2.2.2.1 _ hw) (fun _ h => h) hfin hdt hn hf hl9 hd (fun H1 locs1 hP1 hD1 hS1 => ?_)
  exact kk D p l e R s m args below meth c H1 locs1 cells slots lsA Z C hR hl (jHv.put (e' := .inr (ci, fs.set k v)) h1 hD hL hj hP1 hD1) hS1 hc hs
theorem J_putF {index ci k a : Nat} {fs : List Value} {v : Value} {ty : FieldType} (hF : jF M.1.cls index ci k) (hT : jFt ci k true ty) (hinit : M.1.name = "<init>") (hdecl : ∀ q : vw_C, jcl[ci]? = some q → (q.2.1 k).1 = M.1.cls) (hd : decode M.2.1 pc = .ok (.putfield index, 3)) (hV : V a = some (.inr (ci, fs))) (hn : narrow ty v = v) (hf : fits ty v = true) (hl9 : k < fs.length) (kk : J tS M d (pc + 3) ls st (jup V a (.inr (ci, fs.set k v))) kc ks Q) : J tS M d pc ls (v :: .ref a :: st) V kc ks Q := fun D p l e R s m args below meth c H locs cells slots lsA Z C hR hl hH hS hc hs => by
  obtain ⟨⟨Cn, T, N⟩, hc9, hin, hw, hk⟩ := hF
  obtain ⟨q9, ty0, hc8, hty, hnm, hfin, hdt⟩ := hT
  cases hc9.symm.trans hc8
  obtain ⟨L, f, h1, hP, hD⟩ := hH
  obtain ⟨hL, he⟩ := h1 a _ hV
  obtain ⟨j, hj⟩ := va_pl_get (X := []) (f := f) hL
  refine va_putF (D := D.1) (cl := jcl) (C := Cn) (T := T) (N := N) C.1 C.2.1 C.2.2.2.2.1 hin ty0 hty hnm C.2.2.2.1 C.2.2.2.2.2.2.2.1 hP hD hS j (hj.trans (by rw [he]; rfl)) hc9 k hk (C.2.2.2.2.1 _ hw) (fun _ h => h) hfin (C.2.2.2.2.2.2.1 hinit) (hdecl _ hc9) hdt hn hf hl9 hd (fun H1 locs1 hP1 hD1 hS1 => ?_)
  exact kk D p l e R s m args below meth c H1 locs1 cells slots lsA Z C hR hl (jHv.put (e' := .inr (ci, fs.set k v)) h1 hD hL hj hP1 hD1) hS1 hc hs
theorem J_iald {t a n : Nat} {f : Nat → Int32} {i : Int32} (hd : decode M.2.1 pc = .ok (.iaload, 1)) (hV : V a = some (.inl (t, n, .inl f))) (ht : jT[t]? = some .int) (hin : vp_in i n) (kk : J tS M d (pc + 1) ls (.int (f i.toNatClampNeg) :: st) V kc ks Q) : J tS M d pc ls (.int i :: .ref a :: st) V kc ks Q := fun D p l e R s m args below meth c H locs cells slots lsA Z C hR hl hH hS hc hs =>
  va_iald (D := D.1) (cl := jcl) C.1 C.2.1 C.2.2.2.2.2.2.2.1 (hH.get hV).1 0 t rfl (jT_at ht) hin hd (kk D p l e R s m args below meth c H locs cells slots lsA Z C hR hl hH hS hc hs)
theorem J_lald {t a n : Nat} {f : Nat → Int64} {i : Int32} (hd : decode M.2.1 pc = .ok (.laload, 1)) (hV : V a = some (.inl (t, n, .inr (.inl f)))) (ht : jT[t]? = some .long) (hin : vp_in i n) (kk : J tS M d (pc + 1) ls (.long (f i.toNatClampNeg) :: st) V kc ks Q) : J tS M d pc ls (.int i :: .ref a :: st) V kc ks Q := fun D p l e R s m args below meth c H locs cells slots lsA Z C hR hl hH hS hc hs =>
  va_lald (D := D.1) (cl := jcl) C.1 C.2.1 C.2.2.2.2.2.2.2.1 (hH.get hV).1 0 t rfl (jT_at ht) hin hd (kk D p l e R s m args below meth c H locs cells slots lsA Z C hR hl hH hS hc hs)
theorem J_zald {t a n : Nat} {f : Nat → Int32} {i : Int32} (hd : decode M.2.1 pc = .ok (.baload, 1)) (hV : V a = some (.inl (t, n, .inl f))) (ht : jT[t]? = some .boolean) (hin : vp_in i n) (kk : J tS M d (pc + 1) ls (.int (f i.toNatClampNeg) :: st) V kc ks Q) : J tS M d pc ls (.int i :: .ref a :: st) V kc ks Q := fun D p l e R s m args below meth c H locs cells slots lsA Z C hR hl hH hS hc hs =>
  va_zald (D := D.1) (cl := jcl) C.1 C.2.1 C.2.2.2.2.2.2.2.1 (hH.get hV).1 0 t rfl (jT_at ht) hin hd (kk D p l e R s m args below meth c H locs cells slots lsA Z C hR hl hH hS hc hs)
theorem J_bald {t a n : Nat} {f : Nat → Int32} {i : Int32} (hd : decode M.2.1 pc = .ok (.baload, 1)) (hV : V a = some (.inl (t, n, .inl f))) (ht : jT[t]? = some .byte) (hin : vp_in i n) (kk : J tS M d (pc + 1) ls (.int (f i.toNatClampNeg) :: st) V kc ks Q) : J tS M d pc ls (.int i :: .ref a :: st) V kc ks Q := fun D p l e R s m args below meth c H locs cells slots lsA Z C hR hl hH hS hc hs =>
  va_bald (D := D.1) (cl := jcl) C.1 C.2.1 C.2.2.2.2.2.2.2.1 (hH.get hV).1 0 t rfl (jT_at ht) hin hd (kk D p l e R s m args below meth c H locs cells slots lsA Z C hR hl hH hS hc hs)
theorem J_aald {t a n : Nat} {Cn : String} {f : Nat → Option Nat} {i : Int32} (hd : decode M.2.1 pc = .ok (.aaload, 1)) (ht : jT[t]? = some (.object Cn)) (hV : V a = some (.inl (t, n, .inr (.inr (.inr (.inr f)))))) (hin : vp_in i n) (kk : J tS M d (pc + 1) ls (va_rf (f i.toNatClampNeg) :: st) V kc ks Q) : J tS M d pc ls (.int i :: .ref a :: st) V kc ks Q := fun D p l e R s m args below meth c H locs cells slots lsA Z C hR hl hH hS hc hs =>
  va_aldq (D := D.1) (cl := jcl) C.1 C.2.1 C.2.2.2.2.2.2.2.1 (hH.get hV).1 0 t rfl (jT_at ht) hin hd (kk D p l e R s m args below meth c H locs cells slots lsA Z C hR hl hH hS hc hs)
theorem J_alen {t a : Nat} {ty : FieldType} {x : vp_A} {v : Int32} (hd : decode M.2.1 pc = .ok (.arraylength, 1)) (hV : V a = some (.inl (t, x))) (ht : jT[t]? = some ty) (hv : Int32.ofNat x.1 = v) (kk : J tS M d (pc + 1) ls (.int v :: st) V kc ks Q) : J tS M d pc ls (.ref a :: st) V kc ks Q := fun D p l e R s m args below meth c H locs cells slots lsA Z C hR hl hH hS hc hs =>
  va_alen (D := D.1) (cl := jcl) C.1 C.2.1 C.2.2.2.2.2.2.2.1 (hH.get hV).1 0 t rfl (jT_at ht) hv hd (kk D p l e R s m args below meth c H locs cells slots lsA Z C hR hl hH hS hc hs)
theorem J_iast {t a n : Nat} {f : Nat → Int32} {i : Int32} {x : Int32} (hd : decode M.2.1 pc = .ok (.iastore, 1)) (hV : V a = some (.inl (t, n, .inl f))) (ht : jT[t]? = some .int) (hin : vp_in i n) (kk : J tS M d (pc + 1) ls st (jup V a (.inl (t, n, .inl (upd f i.toNatClampNeg x)))) kc ks Q) : J tS M d pc ls (.int x :: .int i :: .ref a :: st) V kc ks Q := fun D p l e R s m args below meth c H locs cells slots lsA Z C hR hl hH hS hc hs => by
  obtain ⟨L, g, h1, hP, hD⟩ := hH
  obtain ⟨hL, he⟩ := h1 a _ hV
  obtain ⟨j, hj⟩ := va_pl_get (X := []) (f := g) hL
  refine va_iast (D := D.1) (cl := jcl) C.1 C.2.1 C.2.2.2.2.2.2.2.1 hP hD hS j t (hj.trans (by rw [he]; rfl)) (jT_at ht) hin hd (fun H1 locs1 hP1 hD1 hS1 => ?_)
  exact kk D p l e R s m args below meth c H1 locs1 cells slots lsA Z C hR hl (jHv.put (e' := .inl (t, n, .inl (upd f i.toNatClampNeg x))) h1 hD hL hj hP1 hD1) hS1 hc hs
theorem J_last {t a n : Nat} {f : Nat → Int64} {i : Int32} {x : Int64} (hd : decode M.2.1 pc = .ok (.lastore, 1)) (hV : V a = some (.inl (t, n, .inr (.inl f)))) (ht : jT[t]? = some .long) (hin : vp_in i n) (kk : J tS M d (pc + 1) ls st (jup V a (.inl (t, n, .inr (.inl (vp_updL f i.toNatClampNeg x))))) kc ks Q) : J tS M d pc ls (.long x :: .int i :: .ref a :: st) V kc ks Q := fun D p l e R s m args below meth c H locs cells slots lsA Z C hR hl hH hS hc hs => by
  obtain ⟨L, g, h1, hP, hD⟩ := hH
  obtain ⟨hL, he⟩ := h1 a _ hV
  obtain ⟨j, hj⟩ := va_pl_get (X := []) (f := g) hL
  refine va_last (D := D.1) (cl := jcl) C.1 C.2.1 C.2.2.2.2.2.2.2.1 hP hD hS j t (hj.trans (by rw [he]; rfl)) (jT_at ht) hin hd (fun H1 locs1 hP1 hD1 hS1 => ?_)
  exact kk D p l e R s m args below meth c H1 locs1 cells slots lsA Z C hR hl (jHv.put (e' := .inl (t, n, .inr (.inl (vp_updL f i.toNatClampNeg x)))) h1 hD hL hj hP1 hD1) hS1 hc hs
theorem J_zast {t a n : Nat} {f : Nat → Int32} {i : Int32} {x : Int32} (hd : decode M.2.1 pc = .ok (.bastore, 1)) (hV : V a = some (.inl (t, n, .inl f))) (ht : jT[t]? = some .boolean) (hin : vp_in i n) (kk : J tS M d (pc + 1) ls st (jup V a (.inl (t, n, .inl (upd f i.toNatClampNeg (vp_nar .boolean x))))) kc ks Q) : J tS M d pc ls (.int x :: .int i :: .ref a :: st) V kc ks Q := fun D p l e R s m args below meth c H locs cells slots lsA Z C hR hl hH hS hc hs => by
  obtain ⟨L, g, h1, hP, hD⟩ := hH
  obtain ⟨hL, he⟩ := h1 a _ hV
  obtain ⟨j, hj⟩ := va_pl_get (X := []) (f := g) hL
  refine va_zast (D := D.1) (cl := jcl) C.1 C.2.1 C.2.2.2.2.2.2.2.1 hP hD hS j t (hj.trans (by rw [he]; rfl)) (jT_at ht) hin hd (fun H1 locs1 hP1 hD1 hS1 => ?_)
  exact kk D p l e R s m args below meth c H1 locs1 cells slots lsA Z C hR hl (jHv.put (e' := .inl (t, n, .inl (upd f i.toNatClampNeg (vp_nar .boolean x)))) h1 hD hL hj hP1 hD1) hS1 hc hs
theorem J_bast {t a n : Nat} {f : Nat → Int32} {i : Int32} {x : Int32} (hd : decode M.2.1 pc = .ok (.bastore, 1)) (hV : V a = some (.inl (t, n, .inl f))) (ht : jT[t]? = some .byte) (hin : vp_in i n) (kk : J tS M d (pc + 1) ls st (jup V a (.inl (t, n, .inl (upd f i.toNatClampNeg (vp_nar .byte x))))) kc ks Q) : J tS M d pc ls (.int x :: .int i :: .ref a :: st) V kc ks Q := fun D p l e R s m args below meth c H locs cells slots lsA Z C hR hl hH hS hc hs => by
  obtain ⟨L, g, h1, hP, hD⟩ := hH
  obtain ⟨hL, he⟩ := h1 a _ hV
  obtain ⟨j, hj⟩ := va_pl_get (X := []) (f := g) hL
  refine va_bast (D := D.1) (cl := jcl) C.1 C.2.1 C.2.2.2.2.2.2.2.1 hP hD hS j t (hj.trans (by rw [he]; rfl)) (jT_at ht) hin hd (fun H1 locs1 hP1 hD1 hS1 => ?_)
  exact kk D p l e R s m args below meth c H1 locs1 cells slots lsA Z C hR hl (jHv.put (e' := .inl (t, n, .inl (upd f i.toNatClampNeg (vp_nar .byte x)))) h1 hD hL hj hP1 hD1) hS1 hc hs
theorem J_aast {t a n v ci : Nat} {r : vw_C} {vs : List Value} {f : Nat → Option Nat} {i : Int32} (hd : decode M.2.1 pc = .ok (.aastore, 1)) (ht : jT[t]? = some (.object r.1)) (hc9 : jcl[ci]? = some r) (hV : V a = some (.inl (t, n, .inr (.inr (.inr (.inr f)))))) (hv : V v = some (.inr (ci, vs))) (hin : vp_in i n) (kk : J tS M d (pc + 1) ls st (jup V a (.inl (t, n, .inr (.inr (.inr (.inr (va_up f i.toNatClampNeg (some v)))))))) kc ks Q) : J tS M d pc ls (.ref v :: .int i :: .ref a :: st) V kc ks Q := fun D p l e R s m args below meth c H locs cells slots lsA Z C hR hl hH hS hc hs => by
  obtain ⟨L, g, h1, hP, hD⟩ := hH
  obtain ⟨hL, he⟩ := h1 a _ hV
  obtain ⟨hL2, he2⟩ := h1 v _ hv
  obtain ⟨j, hj⟩ := va_pl_get (X := []) (f := g) hL
  obtain ⟨j2, hj2⟩ := va_pl_get (X := []) (f := g) hL2
  refine va_astq (D := D.1) (cl := jcl) C.1 C.2.1 C.2.2.2.2.2.2.2.1 hP hD hS j t j2 ci (hj.trans (by rw [he]; rfl)) (jT_at ht) (hj2.trans (by rw [he2]; rfl)) hc9 hin hd (fun H1 locs1 hP1 hD1 hS1 => ?_)
  exact kk D p l e R s m args below meth c H1 locs1 cells slots lsA Z C hR hl (jHv.put (e' := .inl (t, n, .inr (.inr (.inr (.inr (va_up f i.toNatClampNeg (some v))))))) h1 hD hL hj hP1 hD1) hS1 hc hs
/-- a class that is made -/
def jNew (own : String) (index ci : Nat) (fs : List Value) (N : Nat) : Prop := ∃ (q : vw_C) (ty : Nat → FieldType), jcl[ci]? = some q ∧ q.2.2 = N ∧ (∀ w ∈ u_ws q.1 q.2.1 q.2.2, w ∈ jWG) ∧ (∀ k, k < q.2.2 → parseFieldDescriptor (q.2.1 k).2.2.1 = some (ty k)) ∧ Cond.classLink own index q.1 ∈ jWG ∧ Cond.instantiable q.1 q.2.2 ∈ jWG ∧ Cond.initialized q.1 ∈ jWG ∧ ∀ j, j < q.2.2 → defaultValue (ty j) = vp_V fs j
theorem J_new {index ci N : Nat} {fs : List Value} (hN : jNew M.1.cls index ci fs N) (hd : decode M.2.1 pc = .ok (.new index, 3)) (hkc : 1 ≤ kc) (hks : N ≤ ks) (kk : ∀ q : Nat, V q = none → J tS M d (pc + 3) ls (.ref q :: st) (jup V q (.inr (ci, fs))) (kc - 1) (ks - N) Q) : J tS M d pc ls st V kc ks Q := fun D p l e R s m args below meth c H locs cells slots lsA Z C hR hl hH hS hc hs => by
  obtain ⟨⟨Cn, T, N'⟩, ty, hc9, hN', hin, hty, hcl, hins, hini, hfs⟩ := hN
  dsimp only at hN'
  subst hN'
  obtain ⟨L, f, h1, hP, hD⟩ := hH
  refine va_new (D := D.1) (cl := jcl) (C := Cn) (T := T) (N := N') (fs := fs) (ci := ci) C.1 C.2.1 C.2.2.2.2.1 hin ty hty C.2.2.2.1 (C.2.2.2.2.1 _ hcl) (C.2.2.2.2.1 _ hins) (C.2.2.2.2.1 _ hini) C.2.2.2.2.2.2.2.1 hP hD hS (fun q h => Nat.le_trans C.2.2.2.2.2.2.2.2.2.2.2 h) hc9 hfs (by omega) (by omega) hd (fun q H1 hP1 hD1 hS1 => ?_)
  have hq := jD_new hD1
  exact kk q (jHv.none h1 hq) D p l e R s m args below meth c H1 locs (cells + 1) (slots + N') lsA Z C hR hl (jHv.new (e' := .inr (ci, fs)) h1 hq hP1 hD1) hS1 (by omega) (by omega)
theorem J_newa {atype : ArrayType} {t N : Nat} {n : Int32} {x : vp_A} (hw : Cond.arrayClass (newarray.typeOf atype) ∈ jWG) (ht : jT[t]? = some (newarray.typeOf atype)) (hob : ∀ Cn, newarray.typeOf atype ≠ .object Cn) (hd : decode M.2.1 pc = .ok (.newarray atype, 2)) (hx9 : ∀ cA : ClassId, vp_cell cA x = arrV cA N (fun _ => defaultValue (newarray.typeOf atype))) (hn : ¬ n < 0) (hN : n.toNatClampNeg = N) (hby : N * componentBytes (newarray.typeOf atype) ≤ 536870912) (hkc : 1 ≤ kc) (hks : N ≤ ks) (kk : ∀ q : Nat, V q = none → J tS M d (pc + 2) ls (.ref q :: st) (jup V q (.inl (t, x))) (kc - 1) (ks - N) Q) : J tS M d pc ls (.int n :: st) V kc ks Q := fun D p l e R s m args below meth c H locs cells slots lsA Z C hR hl hH hS hc hs => by
  obtain ⟨L, f, h1, hP, hD⟩ := hH
  refine va_newa (D := D.1) (cl := jcl) (atype := atype) (a0 := x) C.1 C.2.1 (C.2.2.2.2.1 _ hw) rfl C.2.2.2.2.2.2.2.1 hP hD hS (fun q h => Nat.le_trans C.2.2.2.2.2.2.2.2.2.2.2 h) hx9 hn hN hby (by omega) (by omega) hd (fun q cA H1 hK1 hP1 hD1 hS1 => ?_)
  have hq := jD_new hD1
  have e1 := (hK1.2 (jtys D.2.1).length (cA, newarray.typeOf atype) (by rw [List.getElem?_append_right (Nat.le_refl _), Nat.sub_self]; rfl)).2
  have e2 := (C.2.2.2.2.2.2.2.1.2 t _ (jT_at ht)).2
  have hcA : cA = D.2.1 t := by
    cases hty : newarray.typeOf atype <;> rw [hty] at e1 e2 <;> first | exact absurd hty (hob _) | exact Option.some.inj (e1.symm.trans e2)
  subst hcA
  exact kk q (jHv.none h1 hq) D p l e R s m args below meth c H1 locs (cells + 1) (slots + N) lsA Z C hR hl (jHv.new (e' := .inl (t, x)) h1 hq hP1 hD1) hS1 (by omega) (by omega)
theorem J_newq {index t N : Nat} {n : Int32} {Cn : String} (hw : Cond.classLink M.1.cls index Cn ∈ jWG) (hao : Cn ∈ jAO) (ht : jT[t]? = some (.object Cn)) (hd : decode M.2.1 pc = .ok (.anewarray index, 3)) (hn : ¬ n < 0) (hN : n.toNatClampNeg = N) (hby : N * 4 ≤ 536870912) (hkc : 1 ≤ kc) (hks : N ≤ ks) (kk : ∀ q : Nat, V q = none → J tS M d (pc + 3) ls (.ref q :: st) (jup V q (.inl (t, N, .inr (.inr (.inr (.inr (fun _ => none))))))) (kc - 1) (ks - N) Q) : J tS M d pc ls (.int n :: st) V kc ks Q := fun D p l e R s m args below meth c H locs cells slots lsA Z C hR hl hH hS hc hs => by
  obtain ⟨L, f, h1, hP, hD⟩ := hH
  refine va_newq (D := D.1) (cl := jcl) C.1 C.2.1 C.2.2.2.1 (C.2.2.2.2.1 _ hw) (C.2.2.2.2.2.1.2 _ hao) C.2.2.2.2.2.2.2.1 hP hD hS (fun q h => Nat.le_trans C.2.2.2.2.2.2.2.2.2.2.2 h) hn hN hby (by omega) (by omega) hd (fun q cA H1 hK1 hP1 hD1 hS1 => ?_)
  have hq := jD_new hD1
  have e1 := (hK1.2 (jtys D.2.1).length (cA, .object Cn) (by rw [List.getElem?_append_right (Nat.le_refl _), Nat.sub_self]; rfl)).2
  have e2 := (C.2.2.2.2.2.2.2.1.2 t _ (jT_at ht)).2
  obtain ⟨_, _, _, _, _, f1⟩ := e1
  obtain ⟨_, _, _, _, _, f2⟩ := e2
  have hcA : cA = D.2.1 t := Option.some.inj (f1.symm.trans f2)
  subst hcA
  exact kk q (jHv.none h1 hq) D p l e R s m args below meth c H1 locs (cells + 1) (slots + N) lsA Z C hR hl (jHv.new (e' := .inl (t, N, .inr (.inr (.inr (.inr (fun _ => none)))))) h1 hq hP1 hD1) hS1 (by omega) (by omega)
theorem J_objInit {index a : Nat} (hw : Cond.methodLink M.1.cls index Lib.objectInit ∈ jWG) (hw2 : Cond.instanceMethod Lib.objectInit ∈ jWG) (hw3 : Cond.code Lib.objectInit ⟨#[0xb1]⟩ 1 none ∈ jWG) (hd : decode M.2.1 pc = .ok (.invokespecial index, 3)) (hd1 : 1 ≤ d) (hst : (st.map fun v => v.category).sum ≤ 8) (kk : J tS M d (pc + 3) ls st V kc ks Q) : J tS M d pc ls (.ref a :: st) V kc ks Q := fun D p l e R s m args below meth c H locs cells slots lsA Z C hR hl hH hS hc hs => by
  refine W.objInit C.1 C.2.1 C.2.2.2.1 (C.2.2.2.2.1 _ hw) (C.2.2.2.2.1 _ hw2) (C.2.2.2.2.1 _ hw3) rfl (by rw [C.2.2.1]; exact hl.1) rfl hd (Nat.le_trans hd1 C.2.2.2.2.2.2.2.2.2.1) (Nat.le_trans ?_ C.2.2.2.2.2.2.2.2.2.2.1) (W.eq (g2 := F0 m (pc + 3) lsA st) rfl (kk D p l e R s m args below meth c H locs cells slots lsA Z C hR hl hH hS hc hs))
  show 2 * 0 + _ + 12 ≤ _
  omega
theorem J_gets {index k : Nat} {q : jS} (hk : jSs[k]? = some q) (hw : Cond.fieldLink M.1.cls index q.1 q.2.1 q.2.2.1 ∈ jWG) (hd : decode M.2.1 pc = .ok (.getstatic index, 3)) (kk : J tS M d (pc + 3) ls (.ref (tS.1 k) :: st) V kc ks Q) : J tS M d pc ls st V kc ks Q := fun D p l e R s m args below meth c H locs cells slots lsA Z C hR hl hH hS hc hs =>
  va_gets C.1 C.2.1 (C.2.2.2.2.2.2.2.2.1.1 k q hk).1 hS C.2.2.2.1 (C.2.2.2.2.1 _ hw) (fun _ h => h) hd (kk D p l e R s m args below meth c H locs cells slots lsA Z C hR hl hH hS hc hs)
theorem J_ti {k : Nat} {q : jS} {i : Int32} {v : Value} (hk : jSs[k]? = some q) (hty : q.2.2.2.1 = .int) (hd : decode M.2.1 pc = .ok (.iaload, 1)) (hin : vp_in i q.2.2.2.2.1) (hv : q.2.2.2.2.2 i.toNatClampNeg = v) (kk : J tS M d (pc + 1) ls (v :: st) V kc ks Q) : J tS M d pc ls (.int i :: .ref (tS.1 k) :: st) V kc ks Q := fun D p l e R s m args below meth c H locs cells slots lsA Z C hR hl hH hS hc hs =>
  va_ti C.1 C.2.1 (hty ▸ (C.2.2.2.2.2.2.2.2.1.1 k q hk).2) hS hin hv hd (kk D p l e R s m args below meth c H locs cells slots lsA Z C hR hl hH hS hc hs)
theorem J_tlen {k : Nat} {q : jS} {v : Int32} (hk : jSs[k]? = some q) (hd : decode M.2.1 pc = .ok (.arraylength, 1)) (hv : Int32.ofNat q.2.2.2.2.1 = v) (kk : J tS M d (pc + 1) ls (.int v :: st) V kc ks Q) : J tS M d pc ls (.ref (tS.1 k) :: st) V kc ks Q := fun D p l e R s m args below meth c H locs cells slots lsA Z C hR hl hH hS hc hs =>
  va_tlen C.1 C.2.1 (C.2.2.2.2.2.2.2.2.1.1 k q hk).2 hS hv hd (kk D p l e R s m args below meth c H locs cells slots lsA Z C hR hl hH hS hc hs)
theorem J_sld {b L : Nat} {xs : Nat → Int32} {i : Int32} (hs9 : tS.2 = some (b, L, xs)) (hd : decode M.2.1 pc = .ok (.iaload, 1)) (hin : vp_in i L) (kk : J tS M d (pc + 1) ls (.int (xs i.toNatClampNeg) :: st) V kc ks Q) : J tS M d pc ls (.int i :: .ref b :: st) V kc ks Q := fun D p l e R s m args below meth c H locs cells slots lsA Z C hR hl hH hS hc hs =>
  va_ti C.1 C.2.1 (C.2.2.2.2.2.2.2.2.1.2 b L xs hs9) hS hin rfl hd (kk D p l e R s m args below meth c H locs cells slots lsA Z C hR hl hH hS hc hs)
theorem J_slen {b L : Nat} {xs : Nat → Int32} (hs9 : tS.2 = some (b, L, xs)) (hd : decode M.2.1 pc = .ok (.arraylength, 1)) (kk : J tS M d (pc + 1) ls (.int (Int32.ofNat L) :: st) V kc ks Q) : J tS M d pc ls (.ref b :: st) V kc ks Q := fun D p l e R s m args below meth c H locs cells slots lsA Z C hR hl hH hS hc hs =>
  va_tlen C.1 C.2.1 (C.2.2.2.2.2.2.2.2.1.2 b L xs hs9) hS rfl hd (kk D p l e R s m args below meth c H locs cells slots lsA Z C hR hl hH hS hc hs)
theorem J_mmax {index : Nat} {x y : Int32} (hw : Cond.methodLink M.1.cls index Lib.Math.max.name ∈ jWG) (hd : decode M.2.1 pc = .ok (.invokestatic index, 3)) (hd1 : 1 ≤ d) (hst : (st.map fun v => v.category).sum ≤ 8) (kk : J tS M d (pc + 3) ls (.int (if x < y then y else x) :: st) V kc ks Q) : J tS M d pc ls (.int y :: .int x :: st) V kc ks Q := fun D p l e R s m args below meth c H locs cells slots lsA Z C hR hl hH hS hc hs => by
  have h9 := C.2.2.2.2.2.2.2.2.2.2.1
  exact va_mmax C.1 C.2.1 (by rw [C.2.2.1]; exact hl.1.symm) C.2.2.2.1 (C.2.2.2.2.1 _ hw) (C.2.2.2.2.1 _ jw_mmax1) (C.2.2.2.2.1 _ jw_mini) (C.2.2.2.2.1 _ jw_mmax2) (Nat.le_trans hd1 C.2.2.2.2.2.2.2.2.2.1) (by omega) (by omega) (by omega) hd (kk D p l e R s m args below meth c H locs cells slots lsA Z C hR hl hH hS hc hs)
theorem J_mmin {index : Nat} {x y : Int32} (hw : Cond.methodLink M.1.cls index Lib.Math.min.name ∈ jWG) (hd : decode M.2.1 pc = .ok (.invokestatic index, 3)) (hd1 : 1 ≤ d) (hst : (st.map fun v => v.category).sum ≤ 8) (kk : J tS M d (pc + 3) ls (.int (if y < x then y else x) :: st) V kc ks Q) : J tS M d pc ls (.int y :: .int x :: st) V kc ks Q := fun D p l e R s m args below meth c H locs cells slots lsA Z C hR hl hH hS hc hs => by
  have h9 := C.2.2.2.2.2.2.2.2.2.2.1
  exact va_mmin C.1 C.2.1 (by rw [C.2.2.1]; exact hl.1.symm) C.2.2.2.1 (C.2.2.2.2.1 _ hw) (C.2.2.2.2.1 _ jw_mmin1) (C.2.2.2.2.1 _ jw_mini) (C.2.2.2.2.1 _ jw_mmin2) (Nat.le_trans hd1 C.2.2.2.2.2.2.2.2.2.1) (by omega) (by omega) (by omega) hd (kk D p l e R s m args below meth c H locs cells slots lsA Z C hR hl hH hS hc hs)
theorem J_mabs {index : Nat} {x : Int32} (hw : Cond.methodLink M.1.cls index Lib.Math.abs.name ∈ jWG) (hd : decode M.2.1 pc = .ok (.invokestatic index, 3)) (hd1 : 1 ≤ d) (hst : (st.map fun v => v.category).sum ≤ 8) (kk : J tS M d (pc + 3) ls (.int (if 0 ≤ x then x else 0 - x) :: st) V kc ks Q) : J tS M d pc ls (.int x :: st) V kc ks Q := fun D p l e R s m args below meth c H locs cells slots lsA Z C hR hl hH hS hc hs => by
  have h9 := C.2.2.2.2.2.2.2.2.2.2.1
  exact va_mabs C.1 C.2.1 (by rw [C.2.2.1]; exact hl.1.symm) C.2.2.2.1 (C.2.2.2.2.1 _ hw) (C.2.2.2.2.1 _ jw_mabs1) (C.2.2.2.2.1 _ jw_mini) (C.2.2.2.2.1 _ jw_mabs2) (Nat.le_trans hd1 C.2.2.2.2.2.2.2.2.2.1) (by omega) (by omega) (by omega) hd (kk D p l e R s m args below meth c H locs cells slots lsA Z C hR hl hH hS hc hs)
theorem jGI {l : List Cond} (h : ∀ w ∈ l, w ∈ jWG) : GoodIn jWG l := fun w hw => ⟨h w hw, good_of_word (List.mem_filter.mp (h w hw)).2⟩
/-- what the tables say of a method that is called: its code, its class initialised, how many arguments it takes (its receiver apart) -/
def jMo (M : jM) (n : Nat) : Prop := Cond.code M.1 M.2.1 M.2.2.1 M.2.2.2 ∈ jWG ∧ Cond.initialized M.1.cls ∈ jWG ∧ M.1.cls ≠ "java/lang/invoke/MethodHandle" ∧ M.1.cls ≠ "java/lang/invoke/VarHandle" ∧ (parseMethodDescriptor M.1.desc).map (fun d => d.parameters.length) = some n ∧ M.2.2.1 ≤ 45 ∧ plainName M.1.cls = true
theorem jW_in {M : jM} {n : Nat} (h : jMo M n) : ∀ w ∈ jW M, w ∈ jWG := fun w hw => (List.mem_cons.mp hw).elim (fun e => e ▸ h.1) id
theorem jPc_blind {tS : jTS} {D : jD} {av : List Value} {V : jH} : FrameBlind (jPc tS D av V) := by
  intro a U g mk q
  obtain ⟨q0, q1, q2, q3, q4, q5⟩ := q
  exact ⟨q0, q1, va_K.moved (u := U) (U := U.calling g mk a) (Vm.Alike.refl U.vm) q2, ⟨fun k q hk => ⟨va_Z.moved (u := U) (U := U.calling g mk a) (Vm.Alike.refl U.vm) (q3.1 k q hk).1, va_T.moved (u := U) (U := U.calling g mk a) (Vm.Alike.refl U.vm) (q3.1 k q hk).2⟩, fun b L xs hb => va_T.moved (u := U) (U := U.calling g mk a) (Vm.Alike.refl U.vm) (q3.2 b L xs hb)⟩, ⟨fun q hq => va_Nw.same (U := U.calling g mk a) rfl rfl (q4.1 q hq), fun C hC => va_AO.moved (u := U) (U := U.calling g mk a) (Vm.Alike.refl U.vm) (q4.2 C hC)⟩, q5⟩
theorem jPc_pre {tS : jTS} {D : jD} {av : List Value} {V : jH} {s U : State} {H : Heap} {locs : List Loc} (hU : U.heap = H) (hW : s.WarmedH U.vm) (hH : jHv D H V) (hK : jK D s) (hSt : jSt tS D s) (hN : jN s) (hb : D.2.2 ≤ s.heap.size) (hS : va_S (jOwn D) s.heap H locs) : jPc tS D av V av.toArray U := by
  refine ⟨rfl, by rw [hU]; exact hH, va_K.moved hW.alike hK, ⟨fun k q hk => ?_, fun b L xs hb => va_T.moved hW.alike ((hSt.2 b L xs hb).kept (H1 := U.heap) (fun a h1 h2 => by rw [hU]; exact hS.2.1 a h1 h2))⟩, ⟨fun q hq => va_Nw.warmM hW (hN.1 q hq), fun C hC => va_AO.moved hW.alike (hN.2 C hC)⟩, by rw [hU]; exact Nat.le_trans hb hS.1⟩
  have h1 := va_Z.moved hW.alike ((hSt.1 k q hk).1.kept (H1 := U.heap) (fun a h1 h2 => by rw [hU]; exact hS.2.1 a h1 h2))
  have h2 := va_T.moved hW.alike ((hSt.1 k q hk).2.kept (H1 := U.heap) (fun a h1 h2 => by rw [hU]; exact hS.2.1 a h1 h2))
  exact ⟨h1, h2⟩
theorem J_callS {M2 : jM} {n index d2 mc ms : Nat} {av : List Value} {Q2 : Option Value → jH → Prop} (hM : jMo M2 n) (hw : Cond.methodLink M.1.cls index M2.1 ∈ jWG) (hw2 : Cond.static M2.1 ∈ jWG) (hd : decode M.2.1 pc = .ok (.invokestatic index, 3)) (hn : av.length = n) (ht : jTot tS M2 d2 av V mc ms Q2) (hd2 : d2 + 1 ≤ d) (hkc : mc ≤ kc) (hks : ms ≤ ks) (hst : (st.map fun v => v.category).sum ≤ 8) (kk : ∀ (r : Option Value) (V2 : jH), Q2 r V2 → J tS M d (pc + 3) ls (r.toList ++ st) V2 (kc - mc) (ks - ms) Q) : J tS M d pc ls (av.reverse ++ st) V kc ks Q := fun D p l e R s m args below meth c H locs cells slots lsA Z C hR hl hH hS hc hs => by
  have run := va_runS (e := e) (below := below) (meth := meth) (R := R) (cells := cells) (slots := slots) (locs := locs) (H := H) (g := F0 m pc lsA (av.reverse ++ st)) (rest := st) ⟨C.1, C.2.1, C.2.2.1, C.2.2.2.1, C.2.2.2.2.1⟩ (ht l D) (va_cwS (R := R) n C.2.2.2.2.1 (jGI (fun w hw9 => (List.mem_append.mp hw9).elim (fun h => by
    rcases List.mem_cons.mp h with h | h
    · rw [h]; exact hw
    rcases List.mem_cons.mp h with h | h
    · rw [h]; exact hw2
    rw [List.mem_singleton.mp h]; exact hM.2.1) (jW_in hM w))) rfl rfl rfl ⟨hM.2.2.1, hM.2.2.2.1, hM.2.2.2.2.1⟩ ⟨Nat.le_trans hd2 C.2.2.2.2.2.2.2.2.2.1, by have h9 := C.2.2.2.2.2.2.2.2.2.2.1; have h8 := hM.2.2.2.2.2.1; show 8 + (M2.2.2.1 + 11) + 64 * d2 ≤ R.locals; omega⟩) ⟨jPc_blind, fun U hU hW => jPc_pre hU hW hH C.2.2.2.2.2.2.2.1 C.2.2.2.2.2.2.2.2.1 C.2.2.2.2.2.1 C.2.2.2.2.2.2.2.2.2.2.2 hS⟩ rfl hn (hl.1) rfl (by show 2 * 0 + _ ≤ 8; omega) hd ⟨by omega, by omega⟩
  intro T hT X
  obtain ⟨v, st₀, t, T', L, h0, X', hL, e1, e2, ⟨⟨r, V2, hv, hq, hv2⟩, hz, hk⟩, hgo⟩ := run T hT X
  cases hv
  rw [h0] at hz hk
  rw [← e1] at hv2
  obtain ⟨t2, a1, b1⟩ := kk _ V2 hq D p l e R s m args below meth c T'.heap (locs ++ L) (cells + mc) (slots + ms) lsA Z C hR hl hv2
    ⟨Nat.le_trans hS.1 (by rw [e1]; exact hz), fun q h1 h2 => by rw [e1, hk q (Nat.lt_of_lt_of_le h1 hS.1) h2]; exact hS.2.1 q h1 h2, fun q hq => (List.mem_append.mp hq).elim (hS.2.2 q) (fun h => hL q h)⟩ (by omega) (by omega) T' rfl X'
  exact ⟨t2, hgo t2 a1, b1⟩
theorem J_callV {b : Nat} {M2 : jM} {n index d2 mc ms : Nat} {av : List Value} {Q2 : Option Value → jH → Prop} (hM : jMo M2 n) (hw : Cond.methodLink M.1.cls index M2.1 ∈ jWG) (hw2 : Cond.instanceMethod M2.1 ∈ jWG) (hw3 : Cond.selects M2.1.cls M2.1 M2.1 ∈ jWG) {ci : Nat} {fs : List Value} {q9 : vw_C} (hV : V b = some (.inr (ci, fs))) (hc9 : jcl[ci]? = some q9) (hcn : q9.1 = M2.1.cls) (hd : decode M.2.1 pc = .ok (.invokevirtual index, 3)) (hn : av.length = n) (ht : jTot tS M2 d2 (.ref b :: av) V mc ms Q2) (hd2 : d2 + 1 ≤ d) (hkc : mc ≤ kc) (hks : ms ≤ ks) (hst : (st.map fun v => v.category).sum ≤ 8) (kk : ∀ (r : Option Value) (V2 : jH), Q2 r V2 → J tS M d (pc + 3) ls (r.toList ++ st) V2 (kc - mc) (ks - ms) Q) : J tS M d pc ls (av.reverse ++ .ref b :: st) V kc ks Q := fun D p l e R s m args below meth c H locs cells slots lsA Z C hR hl hH hS hc hs => by
  have hrecv := va_recv (q := q9) C.2.2.2.2.2.2.2.1 (hH.get hV).1 hc9 (q0 := 0) rfl
  rw [hcn] at hrecv
  have run := va_runV (e := e) (below := below) (meth := meth) (R := R) (cells := cells) (slots := slots) (locs := locs) (H := H) (g := F0 m pc lsA (av.reverse ++ .ref b :: st)) (rest := st) ⟨C.1, C.2.1, C.2.2.1, C.2.2.2.1, C.2.2.2.2.1⟩ (ht l D) (cwV (R := R) n C.2.2.2.2.1 (jGI (fun w hw9 => (List.mem_append.mp hw9).elim (fun h => by
    rcases List.mem_cons.mp h with h | h
    · rw [h]; exact hw
    rcases List.mem_cons.mp h with h | h
    · rw [h]; exact hw2
    rcases List.mem_cons.mp h with h | h
    · rw [h]; exact hw3
    rw [List.mem_singleton.mp h]; exact hM.2.1) (jW_in hM w))) rfl rfl rfl ⟨rfl, hM.2.2.1, hM.2.2.2.1, hM.2.2.2.2.1⟩ ⟨Nat.le_trans hd2 C.2.2.2.2.2.2.2.2.2.1, by have h9 := C.2.2.2.2.2.2.2.2.2.2.1; have h8 := hM.2.2.2.2.2.1; show 8 + (M2.2.2.1 + 11) + 64 * d2 ≤ R.locals; omega⟩) ⟨jPc_blind, hrecv, fun U hU hW => jPc_pre hU hW hH C.2.2.2.2.2.2.2.1 C.2.2.2.2.2.2.2.2.1 C.2.2.2.2.2.1 C.2.2.2.2.2.2.2.2.2.2.2 hS⟩ rfl hn (hl.1) rfl (by show 2 * 0 + _ ≤ 8; omega) hd ⟨by omega, by omega⟩
  intro T hT X
  obtain ⟨v, st₀, t, T', L, h0, X', hL, e1, e2, ⟨⟨r, V2, hv, hq, hv2⟩, hz, hk⟩, hgo⟩ := run T hT X
  cases hv
  rw [h0] at hz hk
  rw [← e1] at hv2
  obtain ⟨t2, a1, b1⟩ := kk _ V2 hq D p l e R s m args below meth c T'.heap (locs ++ L) (cells + mc) (slots + ms) lsA Z C hR hl hv2
    ⟨Nat.le_trans hS.1 (by rw [e1]; exact hz), fun q h1 h2 => by rw [e1, hk q (Nat.lt_of_lt_of_le h1 hS.1) h2]; exact hS.2.1 q h1 h2, fun q hq => (List.mem_append.mp hq).elim (hS.2.2 q) (fun h => hL q h)⟩ (by omega) (by omega) T' rfl X'
  exact ⟨t2, hgo t2 a1, b1⟩
theorem J_callI {b : Nat} {M2 : jM} {n index d2 mc ms : Nat} {av : List Value} {Q2 : Option Value → jH → Prop} (hM : jMo M2 n) (hret : M2.2.2.2 = none) (hin9 : M2.1.name = "<init>") (hw : Cond.methodLink M.1.cls index M2.1 ∈ jWG) (hw2 : Cond.instanceMethod M2.1 ∈ jWG) (hd : decode M.2.1 pc = .ok (.invokespecial index, 3)) (hn : av.length = n) (ht : jTot tS M2 d2 (.ref b :: av) V mc ms Q2) (hd2 : d2 + 1 ≤ d) (hkc : mc ≤ kc) (hks : ms ≤ ks) (hst : (st.map fun v => v.category).sum ≤ 8) (kk : ∀ (r : Option Value) (V2 : jH), Q2 r V2 → J tS M d (pc + 3) ls (r.toList ++ st) V2 (kc - mc) (ks - ms) Q) : J tS M d pc ls (av.reverse ++ .ref b :: st) V kc ks Q := fun D p l e R s m args below meth c H locs cells slots lsA Z C hR hl hH hS hc hs => by
  have hM3 : jW M2 = Cond.code M2.1 M2.2.1 M2.2.2.1 none :: jWG := by unfold jW; rw [hret]
  have run := va_runI (e := e) (below := below) (meth := meth) (R := R) (cells := cells) (slots := slots) (locs := locs) (H := H) (g := F0 m pc lsA (av.reverse ++ .ref b :: st)) (rest := st) ⟨C.1, C.2.1, C.2.2.1, C.2.2.2.1, C.2.2.2.2.1⟩ (ht l D) (cwI (R := R) n C.2.2.2.2.1 (jGI (jW_in hM)) hM3 rfl rfl (C.2.2.2.2.1 _ hM.2.1) (C.2.2.2.2.1 _ hw) (C.2.2.2.2.1 _ hw2) hin9 ⟨hM.2.2.1, hM.2.2.2.1, hM.2.2.2.2.1⟩ ⟨Nat.le_trans hd2 C.2.2.2.2.2.2.2.2.2.1, by have h9 := C.2.2.2.2.2.2.2.2.2.2.1; have h8 := hM.2.2.2.2.2.1; show 8 + (M2.2.2.1 + 11) + 64 * d2 ≤ R.locals; omega⟩) ⟨jPc_blind, fun U hU hW => jPc_pre hU hW hH C.2.2.2.2.2.2.2.1 C.2.2.2.2.2.2.2.2.1 C.2.2.2.2.2.1 C.2.2.2.2.2.2.2.2.2.2.2 hS⟩ rfl hn (hl.1) rfl (by show 2 * 0 + _ ≤ 8; omega) hd ⟨by omega, by omega⟩
  intro T hT X
  obtain ⟨v, st₀, t, T', L, h0, X', hL, e1, e2, ⟨⟨r, V2, hv, hq, hv2⟩, hz, hk⟩, hgo⟩ := run T hT X
  cases hv
  rw [h0] at hz hk
  rw [← e1] at hv2
  obtain ⟨t2, a1, b1⟩ := kk _ V2 hq D p l e R s m args below meth c T'.heap (locs ++ L) (cells + mc) (slots + ms) lsA Z C hR hl hv2
    ⟨Nat.le_trans hS.1 (by rw [e1]; exact hz), fun q h1 h2 => by rw [e1, hk q (Nat.lt_of_lt_of_le h1 hS.1) h2]; exact hS.2.1 q h1 h2, fun q hq => (List.mem_append.mp hq).elim (hS.2.2 q) (fun h => hL q h)⟩ (by omega) (by omega) T' rfl X'
  exact ⟨t2, hgo t2 a1, b1⟩
theorem J_callSN {M2 : jM} {n index d2 mc ms : Nat} {av : List Value} {Q2 : Option Value → jH → Prop} (hM : jMo M2 n) {host : String} (hw : (M.1.cls, index, M2.1, host) ∈ jNL) (hw2 : Cond.static M2.1 ∈ jWG) (hd : decode M.2.1 pc = .ok (.invokestatic index, 3)) (hn : av.length = n) (ht : jTot tS M2 d2 av V mc ms Q2) (hd2 : d2 + 1 ≤ d) (hkc : mc ≤ kc) (hks : ms ≤ ks) (hst : (st.map fun v => v.category).sum ≤ 8) (kk : ∀ (r : Option Value) (V2 : jH), Q2 r V2 → J tS M d (pc + 3) ls (r.toList ++ st) V2 (kc - mc) (ks - ms) Q) : J tS M d pc ls (av.reverse ++ st) V kc ks Q := fun D p l e R s m args below meth c H locs cells slots lsA Z C hR hl hH hS hc hs => by
  have run := va_runSN (e := e) (below := below) (meth := meth) (R := R) (cells := cells) (slots := slots) (locs := locs) (H := H) (g := F0 m pc lsA (av.reverse ++ st)) (rest := st) ⟨C.1, C.2.1, C.2.2.1, C.2.2.2.1, C.2.2.2.2.1⟩ (ht l D) ⟨va_cnB (R := R) n C.2.2.2.2.1 (jGI (jW_in hM)) rfl rfl rfl (C.2.2.2.2.2.1.1 _ hw) (C.2.2.2.2.1 _ hM.2.1) ⟨hM.2.2.1, hM.2.2.2.1, hM.2.2.2.2.1⟩ ⟨Nat.le_trans hd2 C.2.2.2.2.2.2.2.2.2.1, by have h9 := C.2.2.2.2.2.2.2.2.2.2.1; have h8 := hM.2.2.2.2.2.1; show 8 + (M2.2.2.1 + 11) + 64 * d2 ≤ R.locals; omega⟩, C.2.2.2.2.1 _ hw2, trivial⟩ ⟨jPc_blind, fun U hU hW => jPc_pre hU hW hH C.2.2.2.2.2.2.2.1 C.2.2.2.2.2.2.2.2.1 C.2.2.2.2.2.1 C.2.2.2.2.2.2.2.2.2.2.2 hS⟩ rfl hn (hl.1) rfl (by show 2 * 0 + _ ≤ 8; omega) hd ⟨by omega, by omega⟩
  intro T hT X
  obtain ⟨v, st₀, t, T', L, h0, X', hL, e1, e2, ⟨⟨r, V2, hv, hq, hv2⟩, hz, hk⟩, hgo⟩ := run T hT X
  cases hv
  rw [h0] at hz hk
  rw [← e1] at hv2
  obtain ⟨t2, a1, b1⟩ := kk _ V2 hq D p l e R s m args below meth c T'.heap (locs ++ L) (cells + mc) (slots + ms) lsA Z C hR hl hv2
    ⟨Nat.le_trans hS.1 (by rw [e1]; exact hz), fun q h1 h2 => by rw [e1, hk q (Nat.lt_of_lt_of_le h1 hS.1) h2]; exact hS.2.1 q h1 h2, fun q hq => (List.mem_append.mp hq).elim (hS.2.2 q) (fun h => hL q h)⟩ (by omega) (by omega) T' rfl X'
  exact ⟨t2, hgo t2 a1, b1⟩
theorem J_callS0 {M2 : jM} {index d2 mc ms : Nat} {Q2 : Option Value → jH → Prop} (hM : jMo M2 0) (hw : Cond.methodLink M.1.cls index M2.1 ∈ jWG) (hw2 : Cond.static M2.1 ∈ jWG) (hd : decode M.2.1 pc = .ok (.invokestatic index, 3)) (ht : jTot tS M2 d2 [] V mc ms Q2) (hd2 : d2 + 1 ≤ d) (hkc : mc ≤ kc) (hks : ms ≤ ks) (hst : (st.map fun v => v.category).sum ≤ 8) (kk : ∀ (r : Option Value) (V2 : jH), Q2 r V2 → J tS M d (pc + 3) ls (r.toList ++ st) V2 (kc - mc) (ks - ms) Q) : J tS M d pc ls (st) V kc ks Q := J_callS (av := []) hM hw hw2 hd rfl ht hd2 hkc hks hst kk
theorem J_callS1 {a1 : Value} {M2 : jM} {index d2 mc ms : Nat} {Q2 : Option Value → jH → Prop} (hM : jMo M2 1) (hw : Cond.methodLink M.1.cls index M2.1 ∈ jWG) (hw2 : Cond.static M2.1 ∈ jWG) (hd : decode M.2.1 pc = .ok (.invokestatic index, 3)) (ht : jTot tS M2 d2 [a1] V mc ms Q2) (hd2 : d2 + 1 ≤ d) (hkc : mc ≤ kc) (hks : ms ≤ ks) (hst : (st.map fun v => v.category).sum ≤ 8) (kk : ∀ (r : Option Value) (V2 : jH), Q2 r V2 → J tS M d (pc + 3) ls (r.toList ++ st) V2 (kc - mc) (ks - ms) Q) : J tS M d pc ls (a1 :: st) V kc ks Q := J_callS (av := [a1]) hM hw hw2 hd rfl ht hd2 hkc hks hst kk
theorem J_callS2 {a1 a2 : Value} {M2 : jM} {index d2 mc ms : Nat} {Q2 : Option Value → jH → Prop} (hM : jMo M2 2) (hw : Cond.methodLink M.1.cls index M2.1 ∈ jWG) (hw2 : Cond.static M2.1 ∈ jWG) (hd : decode M.2.1 pc = .ok (.invokestatic index, 3)) (ht : jTot tS M2 d2 [a1, a2] V mc ms Q2) (hd2 : d2 + 1 ≤ d) (hkc : mc ≤ kc) (hks : ms ≤ ks) (hst : (st.map fun v => v.category).sum ≤ 8) (kk : ∀ (r : Option Value) (V2 : jH), Q2 r V2 → J tS M d (pc + 3) ls (r.toList ++ st) V2 (kc - mc) (ks - ms) Q) : J tS M d pc ls (a2 :: a1 :: st) V kc ks Q := J_callS (av := [a1, a2]) hM hw hw2 hd rfl ht hd2 hkc hks hst kk
theorem J_callS3 {a1 a2 a3 : Value} {M2 : jM} {index d2 mc ms : Nat} {Q2 : Option Value → jH → Prop} (hM : jMo M2 3) (hw : Cond.methodLink M.1.cls index M2.1 ∈ jWG) (hw2 : Cond.static M2.1 ∈ jWG) (hd : decode M.2.1 pc = .ok (.invokestatic index, 3)) (ht : jTot tS M2 d2 [a1, a2, a3] V mc ms Q2) (hd2 : d2 + 1 ≤ d) (hkc : mc ≤ kc) (hks : ms ≤ ks) (hst : (st.map fun v => v.category).sum ≤ 8) (kk : ∀ (r : Option Value) (V2 : jH), Q2 r V2 → J tS M d (pc + 3) ls (r.toList ++ st) V2 (kc - mc) (ks - ms) Q) : J tS M d pc ls (a3 :: a2 :: a1 :: st) V kc ks Q := J_callS (av := [a1, a2, a3]) hM hw hw2 hd rfl ht hd2 hkc hks hst kk
theorem J_callS4 {a1 a2 a3 a4 : Value} {M2 : jM} {index d2 mc ms : Nat} {Q2 : Option Value → jH → Prop} (hM : jMo M2 4) (hw : Cond.methodLink M.1.cls index M2.1 ∈ jWG) (hw2 : Cond.static M2.1 ∈ jWG) (hd : decode M.2.1 pc = .ok (.invokestatic index, 3)) (ht : jTot tS M2 d2 [a1, a2, a3, a4] V mc ms Q2) (hd2 : d2 + 1 ≤ d) (hkc : mc ≤ kc) (hks : ms ≤ ks) (hst : (st.map fun v => v.category).sum ≤ 8) (kk : ∀ (r : Option Value) (V2 : jH), Q2 r V2 → J tS M d (pc + 3) ls (r.toList ++ st) V2 (kc - mc) (ks - ms) Q) : J tS M d pc ls (a4 :: a3 :: a2 :: a1 :: st) V kc ks Q := J_callS (av := [a1, a2, a3, a4]) hM hw hw2 hd rfl ht hd2 hkc hks hst kk
theorem J_callS5 {a1 a2 a3 a4 a5 : Value} {M2 : jM} {index d2 mc ms : Nat} {Q2 : Option Value → jH → Prop} (hM : jMo M2 5) (hw : Cond.methodLink M.1.cls index M2.1 ∈ jWG) (hw2 : Cond.static M2.1 ∈ jWG) (hd : decode M.2.1 pc = .ok (.invokestatic index, 3)) (ht : jTot tS M2 d2 [a1, a2, a3, a4, a5] V mc ms Q2) (hd2 : d2 + 1 ≤ d) (hkc : mc ≤ kc) (hks : ms ≤ ks) (hst : (st.map fun v => v.category).sum ≤ 8) (kk : ∀ (r : Option Value) (V2 : jH), Q2 r V2 → J tS M d (pc + 3) ls (r.toList ++ st) V2 (kc - mc) (ks - ms) Q) : J tS M d pc ls (a5 :: a4 :: a3 :: a2 :: a1 :: st) V kc ks Q := J_callS (av := [a1, a2, a3, a4, a5]) hM hw hw2 hd rfl ht hd2 hkc hks hst kk
theorem J_callS6 {a1 a2 a3 a4 a5 a6 : Value} {M2 : jM} {index d2 mc ms : Nat} {Q2 : Option Value → jH → Prop} (hM : jMo M2 6) (hw : Cond.methodLink M.1.cls index M2.1 ∈ jWG) (hw2 : Cond.static M2.1 ∈ jWG) (hd : decode M.2.1 pc = .ok (.invokestatic index, 3)) (ht : jTot tS M2 d2 [a1, a2, a3, a4, a5, a6] V mc ms Q2) (hd2 : d2 + 1 ≤ d) (hkc : mc ≤ kc) (hks : ms ≤ ks) (hst : (st.map fun v => v.category).sum ≤ 8) (kk : ∀ (r : Option Value) (V2 : jH), Q2 r V2 → J tS M d (pc + 3) ls (r.toList ++ st) V2 (kc - mc) (ks - ms) Q) : J tS M d pc ls (a6 :: a5 :: a4 :: a3 :: a2 :: a1 :: st) V kc ks Q := J_callS (av := [a1, a2, a3, a4, a5, a6]) hM hw hw2 hd rfl ht hd2 hkc hks hst kk
theorem J_callV0 {b : Nat} {M2 : jM} {index d2 mc ms : Nat} {Q2 : Option Value → jH → Prop} (hM : jMo M2 0) (hw : Cond.methodLink M.1.cls index M2.1 ∈ jWG) (hw2 : Cond.instanceMethod M2.1 ∈ jWG) (hw3 : Cond.selects M2.1.cls M2.1 M2.1 ∈ jWG) {ci : Nat} {fs : List Value} {q9 : vw_C} (hV : V b = some (.inr (ci, fs))) (hc9 : jcl[ci]? = some q9) (hcn : q9.1 = M2.1.cls) (hd : decode M.2.1 pc = .ok (.invokevirtual index, 3)) (ht : jTot tS M2 d2 [.ref b] V mc ms Q2) (hd2 : d2 + 1 ≤ d) (hkc : mc ≤ kc) (hks : ms ≤ ks) (hst : (st.map fun v => v.category).sum ≤ 8) (kk : ∀ (r : Option Value) (V2 : jH), Q2 r V2 → J tS M d (pc + 3) ls (r.toList ++ st) V2 (kc - mc) (ks - ms) Q) : J tS M d pc ls (.ref b :: st) V kc ks Q := J_callV (av := []) hM hw hw2 hw3 hV hc9 hcn hd rfl ht hd2 hkc hks hst kk
theorem J_callV1 {b : Nat} {a1 : Value} {M2 : jM} {index d2 mc ms : Nat} {Q2 : Option Value → jH → Prop} (hM : jMo M2 1) (hw : Cond.methodLink M.1.cls index M2.1 ∈ jWG) (hw2 : Cond.instanceMethod M2.1 ∈ jWG) (hw3 : Cond.selects M2.1.cls M2.1 M2.1 ∈ jWG) {ci : Nat} {fs : List Value} {q9 : vw_C} (hV : V b = some (.inr (ci, fs))) (hc9 : jcl[ci]? = some q9) (hcn : q9.1 = M2.1.cls) (hd : decode M.2.1 pc = .ok (.invokevirtual index, 3)) (ht : jTot tS M2 d2 [.ref b, a1] V mc ms Q2) (hd2 : d2 + 1 ≤ d) (hkc : mc ≤ kc) (hks : ms ≤ ks) (hst : (st.map fun v => v.category).sum ≤ 8) (kk : ∀ (r : Option Value) (V2 : jH), Q2 r V2 → J tS M d (pc + 3) ls (r.toList ++ st) V2 (kc - mc) (ks - ms) Q) : J tS M d pc ls (a1 :: .ref b :: st) V kc ks Q := J_callV (av := [a1]) hM hw hw2 hw3 hV hc9 hcn hd rfl ht hd2 hkc hks hst kk
theorem J_callV2 {b : Nat} {a1 a2 : Value} {M2 : jM} {index d2 mc ms : Nat} {Q2 : Option Value → jH → Prop} (hM : jMo M2 2) (hw : Cond.methodLink M.1.cls index M2.1 ∈ jWG) (hw2 : Cond.instanceMethod M2.1 ∈ jWG) (hw3 : Cond.selects M2.1.cls M2.1 M2.1 ∈ jWG) {ci : Nat} {fs : List Value} {q9 : vw_C} (hV : V b = some (.inr (ci, fs))) (hc9 : jcl[ci]? = some q9) (hcn : q9.1 = M2.1.cls) (hd : decode M.2.1 pc = .ok (.invokevirtual index, 3)) (ht : jTot tS M2 d2 [.ref b, a1, a2] V mc ms Q2) (hd2 : d2 + 1 ≤ d) (hkc : mc ≤ kc) (hks : ms ≤ ks) (hst : (st.map fun v => v.category).sum ≤ 8) (kk : ∀ (r : Option Value) (V2 : jH), Q2 r V2 → J tS M d (pc + 3) ls (r.toList ++ st) V2 (kc - mc) (ks - ms) Q) : J tS M d pc ls (a2 :: a1 :: .ref b :: st) V kc ks Q := J_callV (av := [a1, a2]) hM hw hw2 hw3 hV hc9 hcn hd rfl ht hd2 hkc hks hst kk
theorem J_callV3 {b : Nat} {a1 a2 a3 : Value} {M2 : jM} {index d2 mc ms : Nat} {Q2 : Option Value → jH → Prop} (hM : jMo M2 3) (hw : Cond.methodLink M.1.cls index M2.1 ∈ jWG) (hw2 : Cond.instanceMethod M2.1 ∈ jWG) (hw3 : Cond.selects M2.1.cls M2.1 M2.1 ∈ jWG) {ci : Nat} {fs : List Value} {q9 : vw_C} (hV : V b = some (.inr (ci, fs))) (hc9 : jcl[ci]? = some q9) (hcn : q9.1 = M2.1.cls) (hd : decode M.2.1 pc = .ok (.invokevirtual index, 3)) (ht : jTot tS M2 d2 [.ref b, a1, a2, a3] V mc ms Q2) (hd2 : d2 + 1 ≤ d) (hkc : mc ≤ kc) (hks : ms ≤ ks) (hst : (st.map fun v => v.category).sum ≤ 8) (kk : ∀ (r : Option Value) (V2 : jH), Q2 r V2 → J tS M d (pc + 3) ls (r.toList ++ st) V2 (kc - mc) (ks - ms) Q) : J tS M d pc ls (a3 :: a2 :: a1 :: .ref b :: st) V kc ks Q := J_callV (av := [a1, a2, a3]) hM hw hw2 hw3 hV hc9 hcn hd rfl ht hd2 hkc hks hst kk
theorem J_callV4 {b : Nat} {a1 a2 a3 a4 : Value} {M2 : jM} {index d2 mc ms : Nat} {Q2 : Option Value → jH → Prop} (hM : jMo M2 4) (hw : Cond.methodLink M.1.cls index M2.1 ∈ jWG) (hw2 : Cond.instanceMethod M2.1 ∈ jWG) (hw3 : Cond.selects M2.1.cls M2.1 M2.1 ∈ jWG) {ci : Nat} {fs : List Value} {q9 : vw_C} (hV : V b = some (.inr (ci, fs))) (hc9 : jcl[ci]? = some q9) (hcn : q9.1 = M2.1.cls) (hd : decode M.2.1 pc = .ok (.invokevirtual index, 3)) (ht : jTot tS M2 d2 [.ref b, a1, a2, a3, a4] V mc ms Q2) (hd2 : d2 + 1 ≤ d) (hkc : mc ≤ kc) (hks : ms ≤ ks) (hst : (st.map fun v => v.category).sum ≤ 8) (kk : ∀ (r : Option Value) (V2 : jH), Q2 r V2 → J tS M d (pc + 3) ls (r.toList ++ st) V2 (kc - mc) (ks - ms) Q) : J tS M d pc ls (a4 :: a3 :: a2 :: a1 :: .ref b :: st) V kc ks Q := J_callV (av := [a1, a2, a3, a4]) hM hw hw2 hw3 hV hc9 hcn hd rfl ht hd2 hkc hks hst kk
theorem J_callV5 {b : Nat} {a1 a2 a3 a4 a5 : Value} {M2 : jM} {index d2 mc ms : Nat} {Q2 : Option Value → jH → Prop} (hM : jMo M2 5) (hw : Cond.methodLink M.1.cls index M2.1 ∈ jWG) (hw2 : Cond.instanceMethod M2.1 ∈ jWG) (hw3 : Cond.selects M2.1.cls M2.1 M2.1 ∈ jWG) {ci : Nat} {fs : List Value} {q9 : vw_C} (hV : V b = some (.inr (ci, fs))) (hc9 : jcl[ci]? = some q9) (hcn : q9.1 = M2.1.cls) (hd : decode M.2.1 pc = .ok (.invokevirtual index, 3)) (ht : jTot tS M2 d2 [.ref b, a1, a2, a3, a4, a5] V mc ms Q2) (hd2 : d2 + 1 ≤ d) (hkc : mc ≤ kc) (hks : ms ≤ ks) (hst : (st.map fun v => v.category).sum ≤ 8) (kk : ∀ (r : Option Value) (V2 : jH), Q2 r V2 → J tS M d (pc + 3) ls (r.toList ++ st) V2 (kc - mc) (ks - ms) Q) : J tS M d pc ls (a5 :: a4 :: a3 :: a2 :: a1 :: .ref b :: st) V kc ks Q := J_callV (av := [a1, a2, a3, a4, a5]) hM hw hw2 hw3 hV hc9 hcn hd rfl ht hd2 hkc hks hst kk
theorem J_callI0 {b : Nat} {M2 : jM} {index d2 mc ms : Nat} {Q2 : Option Value → jH → Prop} (hM : jMo M2 0) (hret : M2.2.2.2 = none) (hin9 : M2.1.name = "<init>") (hw : Cond.methodLink M.1.cls index M2.1 ∈ jWG) (hw2 : Cond.instanceMethod M2.1 ∈ jWG) (hd : decode M.2.1 pc = .ok (.invokespecial index, 3)) (ht : jTot tS M2 d2 [.ref b] V mc ms Q2) (hd2 : d2 + 1 ≤ d) (hkc : mc ≤ kc) (hks : ms ≤ ks) (hst : (st.map fun v => v.category).sum ≤ 8) (kk : ∀ (r : Option Value) (V2 : jH), Q2 r V2 → J tS M d (pc + 3) ls (r.toList ++ st) V2 (kc - mc) (ks - ms) Q) : J tS M d pc ls (.ref b :: st) V kc ks Q := J_callI (av := []) hM hret hin9 hw hw2 hd rfl ht hd2 hkc hks hst kk
theorem J_callI1 {b : Nat} {a1 : Value} {M2 : jM} {index d2 mc ms : Nat} {Q2 : Option Value → jH → Prop} (hM : jMo M2 1) (hret : M2.2.2.2 = none) (hin9 : M2.1.name = "<init>") (hw : Cond.methodLink M.1.cls index M2.1 ∈ jWG) (hw2 : Cond.instanceMethod M2.1 ∈ jWG) (hd : decode M.2.1 pc = .ok (.invokespecial index, 3)) (ht : jTot tS M2 d2 [.ref b, a1] V mc ms Q2) (hd2 : d2 + 1 ≤ d) (hkc : mc ≤ kc) (hks : ms ≤ ks) (hst : (st.map fun v => v.category).sum ≤ 8) (kk : ∀ (r : Option Value) (V2 : jH), Q2 r V2 → J tS M d (pc + 3) ls (r.toList ++ st) V2 (kc - mc) (ks - ms) Q) : J tS M d pc ls (a1 :: .ref b :: st) V kc ks Q := J_callI (av := [a1]) hM hret hin9 hw hw2 hd rfl ht hd2 hkc hks hst kk
theorem J_callI2 {b : Nat} {a1 a2 : Value} {M2 : jM} {index d2 mc ms : Nat} {Q2 : Option Value → jH → Prop} (hM : jMo M2 2) (hret : M2.2.2.2 = none) (hin9 : M2.1.name = "<init>") (hw : Cond.methodLink M.1.cls index M2.1 ∈ jWG) (hw2 : Cond.instanceMethod M2.1 ∈ jWG) (hd : decode M.2.1 pc = .ok (.invokespecial index, 3)) (ht : jTot tS M2 d2 [.ref b, a1, a2] V mc ms Q2) (hd2 : d2 + 1 ≤ d) (hkc : mc ≤ kc) (hks : ms ≤ ks) (hst : (st.map fun v => v.category).sum ≤ 8) (kk : ∀ (r : Option Value) (V2 : jH), Q2 r V2 → J tS M d (pc + 3) ls (r.toList ++ st) V2 (kc - mc) (ks - ms) Q) : J tS M d pc ls (a2 :: a1 :: .ref b :: st) V kc ks Q := J_callI (av := [a1, a2]) hM hret hin9 hw hw2 hd rfl ht hd2 hkc hks hst kk
theorem J_callI3 {b : Nat} {a1 a2 a3 : Value} {M2 : jM} {index d2 mc ms : Nat} {Q2 : Option Value → jH → Prop} (hM : jMo M2 3) (hret : M2.2.2.2 = none) (hin9 : M2.1.name = "<init>") (hw : Cond.methodLink M.1.cls index M2.1 ∈ jWG) (hw2 : Cond.instanceMethod M2.1 ∈ jWG) (hd : decode M.2.1 pc = .ok (.invokespecial index, 3)) (ht : jTot tS M2 d2 [.ref b, a1, a2, a3] V mc ms Q2) (hd2 : d2 + 1 ≤ d) (hkc : mc ≤ kc) (hks : ms ≤ ks) (hst : (st.map fun v => v.category).sum ≤ 8) (kk : ∀ (r : Option Value) (V2 : jH), Q2 r V2 → J tS M d (pc + 3) ls (r.toList ++ st) V2 (kc - mc) (ks - ms) Q) : J tS M d pc ls (a3 :: a2 :: a1 :: .ref b :: st) V kc ks Q := J_callI (av := [a1, a2, a3]) hM hret hin9 hw hw2 hd rfl ht hd2 hkc hks hst kk
theorem J_callSN0 {M2 : jM} {index d2 mc ms : Nat} {Q2 : Option Value → jH → Prop} (hM : jMo M2 0) {host : String} (hw : (M.1.cls, index, M2.1, host) ∈ jNL) (hw2 : Cond.static M2.1 ∈ jWG) (hd : decode M.2.1 pc = .ok (.invokestatic index, 3)) (ht : jTot tS M2 d2 [] V mc ms Q2) (hd2 : d2 + 1 ≤ d) (hkc : mc ≤ kc) (hks : ms ≤ ks) (hst : (st.map fun v => v.category).sum ≤ 8) (kk : ∀ (r : Option Value) (V2 : jH), Q2 r V2 → J tS M d (pc + 3) ls (r.toList ++ st) V2 (kc - mc) (ks - ms) Q) : J tS M d pc ls (st) V kc ks Q := J_callSN (av := []) hM hw hw2 hd rfl ht hd2 hkc hks hst kk
theorem J_callSN1 {a1 : Value} {M2 : jM} {index d2 mc ms : Nat} {Q2 : Option Value → jH → Prop} (hM : jMo M2 1) {host : String} (hw : (M.1.cls, index, M2.1, host) ∈ jNL) (hw2 : Cond.static M2.1 ∈ jWG) (hd : decode M.2.1 pc = .ok (.invokestatic index, 3)) (ht : jTot tS M2 d2 [a1] V mc ms Q2) (hd2 : d2 + 1 ≤ d) (hkc : mc ≤ kc) (hks : ms ≤ ks) (hst : (st.map fun v => v.category).sum ≤ 8) (kk : ∀ (r : Option Value) (V2 : jH), Q2 r V2 → J tS M d (pc + 3) ls (r.toList ++ st) V2 (kc - mc) (ks - ms) Q) : J tS M d pc ls (a1 :: st) V kc ks Q := J_callSN (av := [a1]) hM hw hw2 hd rfl ht hd2 hkc hks hst kk
theorem J_callSN2 {a1 a2 : Value} {M2 : jM} {index d2 mc ms : Nat} {Q2 : Option Value → jH → Prop} (hM : jMo M2 2) {host : String} (hw : (M.1.cls, index, M2.1, host) ∈ jNL) (hw2 : Cond.static M2.1 ∈ jWG) (hd : decode M.2.1 pc = .ok (.invokestatic index, 3)) (ht : jTot tS M2 d2 [a1, a2] V mc ms Q2) (hd2 : d2 + 1 ≤ d) (hkc : mc ≤ kc) (hks : ms ≤ ks) (hst : (st.map fun v => v.category).sum ≤ 8) (kk : ∀ (r : Option Value) (V2 : jH), Q2 r V2 → J tS M d (pc + 3) ls (r.toList ++ st) V2 (kc - mc) (ks - ms) Q) : J tS M d pc ls (a2 :: a1 :: st) V kc ks Q := J_callSN (av := [a1, a2]) hM hw hw2 hd rfl ht hd2 hkc hks hst kk
theorem J_callSN3 {a1 a2 a3 : Value} {M2 : jM} {index d2 mc ms : Nat} {Q2 : Option Value → jH → Prop} (hM : jMo M2 3) {host : String} (hw : (M.1.cls, index, M2.1, host) ∈ jNL) (hw2 : Cond.static M2.1 ∈ jWG) (hd : decode M.2.1 pc = .ok (.invokestatic index, 3)) (ht : jTot tS M2 d2 [a1, a2, a3] V mc ms Q2) (hd2 : d2 + 1 ≤ d) (hkc : mc ≤ kc) (hks : ms ≤ ks) (hst : (st.map fun v => v.category).sum ≤ 8) (kk : ∀ (r : Option Value) (V2 : jH), Q2 r V2 → J tS M d (pc + 3) ls (r.toList ++ st) V2 (kc - mc) (ks - ms) Q) : J tS M d pc ls (a3 :: a2 :: a1 :: st) V kc ks Q := J_callSN (av := [a1, a2, a3]) hM hw hw2 hd rfl ht hd2 hkc hks hst kk
theorem J_callSN4 {a1 a2 a3 a4 : Value} {M2 : jM} {index d2 mc ms : Nat} {Q2 : Option Value → jH → Prop} (hM : jMo M2 4) {host : String} (hw : (M.1.cls, index, M2.1, host) ∈ jNL) (hw2 : Cond.static M2.1 ∈ jWG) (hd : decode M.2.1 pc = .ok (.invokestatic index, 3)) (ht : jTot tS M2 d2 [a1, a2, a3, a4] V mc ms Q2) (hd2 : d2 + 1 ≤ d) (hkc : mc ≤ kc) (hks : ms ≤ ks) (hst : (st.map fun v => v.category).sum ≤ 8) (kk : ∀ (r : Option Value) (V2 : jH), Q2 r V2 → J tS M d (pc + 3) ls (r.toList ++ st) V2 (kc - mc) (ks - ms) Q) : J tS M d pc ls (a4 :: a3 :: a2 :: a1 :: st) V kc ks Q := J_callSN (av := [a1, a2, a3, a4]) hM hw hw2 hd rfl ht hd2 hkc hks hst kk
/-- a value that M may answer, and the instruction that leaves with it -/
theorem J_ret {r : Option Value} {i : Instr} (hd : decode M.2.1 pc = .ok (i, 1)) (hr9 : jRet M r i) (hq : Q r V) : J tS M d pc ls r.toList V kc ks Q := fun D p l e R s m args below meth c H locs cells slots lsA Z C hR hl hH hS hc hs => hR r V H locs cells slots pc lsA i hq hr9 hH hS (by omega) (by omega) hd
end JR
theorem jTot.of_J {tS : jTS} {M : jM} {d n : Nat} {av : List Value} {V : jH} {mc ms : Nat} {Q : Option Value → jH → Prop} (ls : List (Option Value)) (hM : jMo M n) (hlen : (lg_sl av).length ≤ M.2.2.1) (hls : jP ls = lv_args 0 av) (k : J tS M d 0 ls [] V mc ms Q) : jTot tS M d av V mc ms Q := by
  intro l D
  refine Met.ofW (cc := M.2.1) (maxL := M.2.2.1) (ret := M.2.2.2) hM.2.2.2.2.2.2 rfl ?_
  intro p e s m args below meth c s₁ B hml hv
  obtain ⟨rfl, hH, hK, hSt, hN, hb0⟩ := hv
  have hts := atoms_spec (ws := jW M) B.pre
  have hr := B.returns
  have hlocks := B.notSynchronized
  have hx := B.exec
  have hbb := B.bytes
  have hl := lv_entry av (n := M.2.2.1) hlen
  rw [lg_entry_eq]
  generalize (lg_sl av ++ List.replicate (M.2.2.1 - (lg_sl av).length) Slot.unset).toArray = lsA at hl ⊢
  rw [← hls] at hl
  refine k D p l e _ s m av.toArray below meth c s.heap [] 0 0 lsA _ ⟨hx, hbb, hml, findClass_of_methodNamed B.named, fun w hw => hts w (List.mem_cons_of_mem _ hw), hN, (fun h => (name_of_methodNamed B.named B.method).1.trans h), hK, hSt, Nat.le_refl _, Nat.le_refl _, hb0⟩ ?_ hl hH va_S.rf (by show 0 + mc ≤ mc; omega) (by show 0 + ms ≤ ms; omega)
  intro r V2 H2 locs2 cells2 slots2 pc2 lsA2 i hq hi hH2 hS2 hc2 hs2 hd2
  refine W.widen (k := mc) (n := ms) hc2 hs2 ?_
  have post : ∀ t : State, t.heap = H2 → s.WarmedH t.vm → jQc D Q av.toArray s (.returned r) t := fun t ht hW => ⟨⟨r, V2, rfl, hq, by rw [ht]; exact hH2⟩, hS2.F ht⟩
  cases r with
  | none =>
    obtain ⟨rfl, h1⟩ := hi
    exact W.vret hx hbb (hr.trans h1) post hS2.2.2 hd2
  | some v =>
    cases v with
    | int x =>
      obtain ⟨rfl, ty, h1, h2⟩ := hi
      exact W.zret hx hbb (hr.trans h1) h2 post hS2.2.2 hd2
    | long x =>
      obtain ⟨rfl, h1⟩ := hi
      exact W.lret hx hbb (hr.trans h1) post hS2.2.2 hd2
    | ref x =>
      obtain ⟨rfl, ty, h1, h2⟩ := hi
      exact W.aret hx hbb (hr.trans h1) h2 (Or.inr ⟨x, rfl⟩) post hS2.2.2 hd2
    | null =>
      obtain ⟨rfl, ty, h1, h2⟩ := hi
      exact W.aret hx hbb (hr.trans h1) h2 (Or.inl rfl) post hS2.2.2 hd2
    | _ => exact hi.elim

