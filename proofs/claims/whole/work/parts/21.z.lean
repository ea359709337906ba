def lvo (ad : Nat → Nat) : Nat → List (Option Value) → List (Nat × Value)
  | _, [] => []
  | i, none :: t => lvo ad (i + 1) t
  | i, some v :: t => if v.category = 1 then (i, trv ad v) :: lvo ad (i + 1) t else lvo ad (i + 1) t
theorem lvo_in {ad : Nat → Nat} : ∀ {ls : List (Option Value)} {i n : Nat} {v : Value}, ls[n]? = some (some v) → v.category = 1 → (i + n, trv ad v) ∈ lvo ad i ls
  | [], i, n, v, h, _ => by simp at h
  | none :: t, i, 0, v, h, _ => by simp at h
  | some u :: t, i, 0, v, h, hc => by
    simp only [List.getElem?_cons_zero, Option.some.injEq] at h
    subst h
    simp [lvo, hc]
  | none :: t, i, n + 1, v, h, hc => by
    rw [List.getElem?_cons_succ] at h
    have := lvo_in (ad := ad) (i := i + 1) h hc
    rw [show i + (n + 1) = i + 1 + n by omega]
    exact this
  | some u :: t, i, n + 1, v, h, hc => by
    rw [List.getElem?_cons_succ] at h
    have := lvo_in (ad := ad) (i := i + 1) h hc
    rw [show i + (n + 1) = i + 1 + n by omega]
    unfold lvo
    split
    · exact List.mem_cons_of_mem _ this
    · exact this
theorem lvo_of {ad : Nat → Nat} : ∀ {ls : List (Option Value)} {i : Nat} {q : Nat × Value}, q ∈ lvo ad i ls → ∃ n v, ls[n]? = some (some v) ∧ v.category = 1 ∧ q = (i + n, trv ad v)
  | [], i, q, h => by simp [lvo] at h
  | none :: t, i, q, h => by
    obtain ⟨n, v, h1, h2, h3⟩ := lvo_of (show q ∈ lvo ad (i + 1) t from h)
    exact ⟨n + 1, v, by rw [List.getElem?_cons_succ]; exact h1, h2, by rw [h3, show i + (n + 1) = i + 1 + n by omega]⟩
  | some u :: t, i, q, h => by
    have key : q ∈ lvo ad (i + 1) t → ∃ n v, (some u :: t)[n]? = some (some v) ∧ v.category = 1 ∧ q = (i + n, trv ad v) := fun h => by
      obtain ⟨n, v, h1, h2, h3⟩ := lvo_of h
      exact ⟨n + 1, v, by rw [List.getElem?_cons_succ]; exact h1, h2, by rw [h3, show i + (n + 1) = i + 1 + n by omega]⟩
    unfold lvo at h
    split at h
    · rename_i hc
      rcases List.mem_cons.mp h with h | h
      · exact ⟨0, u, rfl, hc, h⟩
      · exact key h
    · exact key h
theorem lvo_at {ad : Nat → Nat} {lsA : Array Slot} {nL n : Nat} {ls : List (Option Value)} {v : Value} (h : lv_has lsA nL (lvo ad 0 ls)) (hn : ls[n]? = some (some v)) (hc : v.category = 1) : lsA[n]? = some (.val (trv ad v)) := by
  have := h.2.2 _ (lvo_in (ad := ad) (i := 0) hn hc)
  simpa using this
theorem lvo_set {ad : Nat → Nat} {lsA : Array Slot} {nL i : Nat} {ls : List (Option Value)} {v : Value} (h : lv_has lsA nL ((i, trv ad v) :: (lvo ad 0 ls).filter (fun q => !(q.1 == i) && !(q.1 + 1 == i && q.2.category == 2)))) : lv_has lsA nL (lvo ad 0 (ls.set i (some v))) := by
  refine ⟨h.1, h.2.1, fun q hq => ?_⟩
  obtain ⟨n, u, h1, h2, h3⟩ := lvo_of hq
  by_cases hn : n = i
  · subst hn
    rw [List.getElem?_set] at h1
    simp only [if_true] at h1
    split at h1
    · simp only [Option.some.injEq] at h1
      subst h1
      rw [h3, Nat.zero_add]
      exact h.2.2 (n, trv ad v) List.mem_cons_self
    · cases h1
  · rw [List.getElem?_set_ne (Ne.symm hn)] at h1
    have h4 := lvo_in (ad := ad) (i := 0) h1 h2
    rw [h3]
    refine h.2.2 _ (List.mem_cons_of_mem _ (List.mem_filter.mpr ⟨h4, ?_⟩))
    simp [trv_cat, h2, hn]
/-- launch, environment, method, its table, depth, cells and slots, the end -/
abbrev CT : Type := Launch × EnT × MT × List ExceptionTableEntry × Nat × Nat × Nat × (List Frame → Array Value → State → State → Prop)
def rmz (d kc ks : Nat) : Room := { frames := d, cells := kc, slots := ks, locals := 40 * d }
def Cx (E : EnT) (y : MT) (tb : List ExceptionTableEntry) (l : Launch) (p : Program) (s : State) (m : MethodId) (args : Array Value) (meth : Method) (c : Code) (H : Heap) (locs : List Loc) (lsA : Array Slot) (ls : List (Option Value)) (M : Mem) : Prop :=
  (p.tables.exec = Jvm.exec ∧ c.code = y.2.1 ∧ meth.sig.returnType = y.2.2.2 ∧ c.maxLocals = y.2.2.1 ∧ s.vm.findClass y.1.cls = some m.cls ∧ (∀ w ∈ W0, w.before args s = true) ∧ meth.locks = false ∧ c.exceptionTable.toList = tb ∧ l.stackTraces = false) ∧
  (va_K (eD E) vwCl (etys E) s ∧ St E s s.heap ∧ eS E ≤ s.heap.size) ∧
  (va_P (eD E) vwCl (wl E M) H ∧ va_D (eA E) (wl E M) ∧ va_S (eA E) s.heap H locs) ∧ lv_has lsA y.2.2.1 (lvo (eAd E) 0 ls)
/-- from pc, with locals ls, stack st and memory M, the method comes to its end -/
def Zz (X : CT) (cu su pc : Nat) (ls : List (Option Value)) (st : List Value) (M : Mem) : Prop :=
  ∀ (p : Program) (e : Env) (s : State) (m : MethodId) (args : Array Value) (below : List Frame) (meth : Method) (c : Code) (H : Heap) (locs : List Loc) (lsA : Array Slot),
    Cx X.2.1 X.2.2.1 X.2.2.2.1 X.1 p s m args meth c H locs lsA ls M →
    W p X.1 e (rmz X.2.2.2.2.1 X.2.2.2.2.2.1 X.2.2.2.2.2.2.1) s m args below meth c H locs cu su (X.2.2.2.2.2.2.2 below args s) (F0 m pc lsA (st.map (trv (eAd X.2.1))))
def Qr (E : EnT) (Post : Option Value ⊕ String → Mem → Prop) : Array Value → State → Outcome → State → Prop := fun _ st o t =>
  ∃ v M', o = .returned (v.map (trv (eAd E))) ∧ Post (.inl v) M' ∧ va_P (eD E) vwCl (wl E M') t.heap ∧ va_D (eA E) (wl E M') ∧ va_F (eA E) st t
def Qx (E : EnT) (Post : Option Value ⊕ String → Mem → Prop) : String → State → State → Prop := fun C st t =>
  ∃ M', Post (.inr C) M' ∧ va_P (eD E) vwCl (wl E M') t.heap ∧ va_D (eA E) (wl E M') ∧ va_F (eA E) st t
def FinP (E : EnT) (Post : Option Value ⊕ String → Mem → Prop) (kc ks : Nat) : List Frame → Array Value → State → State → Prop := fun below args s => vx_MQ below (Qr E Post) (Qx E Post) args s kc ks (eA E)
abbrev zx (l : Launch) (E : EnT) (y : MT) (d : Nat) (Post : Option Value ⊕ String → Mem → Prop) : CT := (l, E, y, [], d, 0, 0, FinP E Post 0 0)
/-- a method that may throw -/
abbrev zt (l : Launch) (E : EnT) (y : MT) (d : Nat) (Post : Option Value ⊕ String → Mem → Prop) : CT := (l, E, y, [], d, 1, 6, FinP E Post 1 6)
abbrev xb (X : CT) : ByteArray := X.2.2.1.2.1
abbrev xo (X : CT) : String := X.2.2.1.1.cls
abbrev xn (X : CT) : Nat := X.2.2.1.2.2.1
section ZR
variable {X : CT} {cu su pc pc' : Nat} {ls : List (Option Value)} {st : List Value} {M : Mem}

theorem z_iadd {a b : Int32} (hd : decode (xb X) pc = .ok (.iadd, 1)) (hn : pc + 1 = pc') (h : Zz X cu su pc' ls (.int (a + b) :: st) M) : Zz X cu su pc ls (.int b :: .int a :: st) M := by
  subst hn
  intro p e s m args below meth c H locs lsA C
  obtain ⟨⟨hx, hb, hr, hml, hown, hts, hlk, htb, hls⟩, ⟨hK, hSt, hsz⟩, ⟨hP, hD, hS⟩, hl⟩ := id C
  exact lv_iadd hx hb hd (h p e s m args below meth c H locs lsA C)
theorem z_isub {a b : Int32} (hd : decode (xb X) pc = .ok (.isub, 1)) (hn : pc + 1 = pc') (h : Zz X cu su pc' ls (.int (a - b) :: st) M) : Zz X cu su pc ls (.int b :: .int a :: st) M := by
  subst hn
  intro p e s m args below meth c H locs lsA C
  obtain ⟨⟨hx, hb, hr, hml, hown, hts, hlk, htb, hls⟩, ⟨hK, hSt, hsz⟩, ⟨hP, hD, hS⟩, hl⟩ := id C
  exact lv_isub hx hb hd (h p e s m args below meth c H locs lsA C)
theorem z_imul {a b : Int32} (hd : decode (xb X) pc = .ok (.imul, 1)) (hn : pc + 1 = pc') (h : Zz X cu su pc' ls (.int (a * b) :: st) M) : Zz X cu su pc ls (.int b :: .int a :: st) M := by
  subst hn
  intro p e s m args below meth c H locs lsA C
  obtain ⟨⟨hx, hb, hr, hml, hown, hts, hlk, htb, hls⟩, ⟨hK, hSt, hsz⟩, ⟨hP, hD, hS⟩, hl⟩ := id C
  exact lv_imul hx hb hd (h p e s m args below meth c H locs lsA C)
theorem z_iand {a b : Int32} (hd : decode (xb X) pc = .ok (.iand, 1)) (hn : pc + 1 = pc') (h : Zz X cu su pc' ls (.int (a &&& b) :: st) M) : Zz X cu su pc ls (.int b :: .int a :: st) M := by
  subst hn
  intro p e s m args below meth c H locs lsA C
  obtain ⟨⟨hx, hb, hr, hml, hown, hts, hlk, htb, hls⟩, ⟨hK, hSt, hsz⟩, ⟨hP, hD, hS⟩, hl⟩ := id C
  exact lv_iand hx hb hd (h p e s m args below meth c H locs lsA C)
theorem z_ior {a b : Int32} (hd : decode (xb X) pc = .ok (.ior, 1)) (hn : pc + 1 = pc') (h : Zz X cu su pc' ls (.int (a ||| b) :: st) M) : Zz X cu su pc ls (.int b :: .int a :: st) M := by
  subst hn
  intro p e s m args below meth c H locs lsA C
  obtain ⟨⟨hx, hb, hr, hml, hown, hts, hlk, htb, hls⟩, ⟨hK, hSt, hsz⟩, ⟨hP, hD, hS⟩, hl⟩ := id C
  exact lv_ior hx hb hd (h p e s m args below meth c H locs lsA C)
theorem z_ixor {a b : Int32} (hd : decode (xb X) pc = .ok (.ixor, 1)) (hn : pc + 1 = pc') (h : Zz X cu su pc' ls (.int (a ^^^ b) :: st) M) : Zz X cu su pc ls (.int b :: .int a :: st) M := by
  subst hn
  intro p e s m args below meth c H locs lsA C
  obtain ⟨⟨hx, hb, hr, hml, hown, hts, hlk, htb, hls⟩, ⟨hK, hSt, hsz⟩, ⟨hP, hD, hS⟩, hl⟩ := id C
  exact lv_ixor hx hb hd (h p e s m args below meth c H locs lsA C)
theorem z_ishl {a b : Int32} (hd : decode (xb X) pc = .ok (.ishl, 1)) (hn : pc + 1 = pc') (h : Zz X cu su pc' ls (.int (a <<< (b &&& 31)) :: st) M) : Zz X cu su pc ls (.int b :: .int a :: st) M := by
  subst hn
  intro p e s m args below meth c H locs lsA C
  obtain ⟨⟨hx, hb, hr, hml, hown, hts, hlk, htb, hls⟩, ⟨hK, hSt, hsz⟩, ⟨hP, hD, hS⟩, hl⟩ := id C
  exact lv_ishl hx hb hd (h p e s m args below meth c H locs lsA C)
theorem z_ishr {a b : Int32} (hd : decode (xb X) pc = .ok (.ishr, 1)) (hn : pc + 1 = pc') (h : Zz X cu su pc' ls (.int (a >>> (b &&& 31)) :: st) M) : Zz X cu su pc ls (.int b :: .int a :: st) M := by
  subst hn
  intro p e s m args below meth c H locs lsA C
  obtain ⟨⟨hx, hb, hr, hml, hown, hts, hlk, htb, hls⟩, ⟨hK, hSt, hsz⟩, ⟨hP, hD, hS⟩, hl⟩ := id C
  exact lv_ishr hx hb hd (h p e s m args below meth c H locs lsA C)
theorem z_iushr {a b : Int32} (hd : decode (xb X) pc = .ok (.iushr, 1)) (hn : pc + 1 = pc') (h : Zz X cu su pc' ls (.int ((a.toUInt32 >>> (b.toUInt32 &&& Int32.toUInt32 31)).toInt32) :: st) M) : Zz X cu su pc ls (.int b :: .int a :: st) M := by
  subst hn
  intro p e s m args below meth c H locs lsA C
  obtain ⟨⟨hx, hb, hr, hml, hown, hts, hlk, htb, hls⟩, ⟨hK, hSt, hsz⟩, ⟨hP, hD, hS⟩, hl⟩ := id C
  exact lv_iushr hx hb hd rfl (h p e s m args below meth c H locs lsA C)
theorem z_irem {a b : Int32} (hd : decode (xb X) pc = .ok (.irem, 1)) (hne : ¬ b = 0) (hn : pc + 1 = pc') (h : Zz X cu su pc' ls (.int (a - a / b * b) :: st) M) : Zz X cu su pc ls (.int b :: .int a :: st) M := by
  subst hn
  intro p e s m args below meth c H locs lsA C
  obtain ⟨⟨hx, hb, hr, hml, hown, hts, hlk, htb, hls⟩, ⟨hK, hSt, hsz⟩, ⟨hP, hD, hS⟩, hl⟩ := id C
  exact lv_irem hx hb hd hne (h p e s m args below meth c H locs lsA C)
theorem z_ineg {a : Int32} (hd : decode (xb X) pc = .ok (.ineg, 1)) (hn : pc + 1 = pc') (h : Zz X cu su pc' ls (.int (-a) :: st) M) : Zz X cu su pc ls (.int a :: st) M := by
  subst hn
  intro p e s m args below meth c H locs lsA C
  obtain ⟨⟨hx, hb, hr, hml, hown, hts, hlk, htb, hls⟩, ⟨hK, hSt, hsz⟩, ⟨hP, hD, hS⟩, hl⟩ := id C
  exact lv_ineg hx hb hd (h p e s m args below meth c H locs lsA C)
theorem z_land {a b : Int64} (hd : decode (xb X) pc = .ok (.land, 1)) (hn : pc + 1 = pc') (h : Zz X cu su pc' ls (.long (a &&& b) :: st) M) : Zz X cu su pc ls (.long b :: .long a :: st) M := by
  subst hn
  intro p e s m args below meth c H locs lsA C
  obtain ⟨⟨hx, hb, hr, hml, hown, hts, hlk, htb, hls⟩, ⟨hK, hSt, hsz⟩, ⟨hP, hD, hS⟩, hl⟩ := id C
  exact lv_land hx hb hd (h p e s m args below meth c H locs lsA C)
theorem z_lrem {a b : Int64} (hd : decode (xb X) pc = .ok (.lrem, 1)) (hne : ¬ b = 0) (hn : pc + 1 = pc') (h : Zz X cu su pc' ls (.long (a - a / b * b) :: st) M) : Zz X cu su pc ls (.long b :: .long a :: st) M := by
  subst hn
  intro p e s m args below meth c H locs lsA C
  obtain ⟨⟨hx, hb, hr, hml, hown, hts, hlk, htb, hls⟩, ⟨hK, hSt, hsz⟩, ⟨hP, hD, hS⟩, hl⟩ := id C
  exact lv_lrem hx hb hd hne (h p e s m args below meth c H locs lsA C)
theorem z_i2l {a : Int32} (hd : decode (xb X) pc = .ok (.i2l, 1)) (hn : pc + 1 = pc') (h : Zz X cu su pc' ls (.long a.toInt64 :: st) M) : Zz X cu su pc ls (.int a :: st) M := by
  subst hn
  intro p e s m args below meth c H locs lsA C
  obtain ⟨⟨hx, hb, hr, hml, hown, hts, hlk, htb, hls⟩, ⟨hK, hSt, hsz⟩, ⟨hP, hD, hS⟩, hl⟩ := id C
  exact lv_i2l hx hb hd rfl (h p e s m args below meth c H locs lsA C)
theorem z_l2i {a : Int64} (hd : decode (xb X) pc = .ok (.l2i, 1)) (hn : pc + 1 = pc') (h : Zz X cu su pc' ls (.int a.toInt32 :: st) M) : Zz X cu su pc ls (.long a :: st) M := by
  subst hn
  intro p e s m args below meth c H locs lsA C
  obtain ⟨⟨hx, hb, hr, hml, hown, hts, hlk, htb, hls⟩, ⟨hK, hSt, hsz⟩, ⟨hP, hD, hS⟩, hl⟩ := id C
  exact lv_l2i hx hb hd rfl (h p e s m args below meth c H locs lsA C)
theorem z_i2b {a : Int32} (hd : decode (xb X) pc = .ok (.i2b, 1)) (hn : pc + 1 = pc') (h : Zz X cu su pc' ls (.int a.toInt8.toInt32 :: st) M) : Zz X cu su pc ls (.int a :: st) M := by
  subst hn
  intro p e s m args below meth c H locs lsA C
  obtain ⟨⟨hx, hb, hr, hml, hown, hts, hlk, htb, hls⟩, ⟨hK, hSt, hsz⟩, ⟨hP, hD, hS⟩, hl⟩ := id C
  exact lv_i2b hx hb hd rfl (h p e s m args below meth c H locs lsA C)
theorem z_i2c {a : Int32} (hd : decode (xb X) pc = .ok (.i2c, 1)) (hn : pc + 1 = pc') (h : Zz X cu su pc' ls (.int (a.toUInt32 % 65536).toInt32 :: st) M) : Zz X cu su pc ls (.int a :: st) M := by
  subst hn
  intro p e s m args below meth c H locs lsA C
  obtain ⟨⟨hx, hb, hr, hml, hown, hts, hlk, htb, hls⟩, ⟨hK, hSt, hsz⟩, ⟨hP, hD, hS⟩, hl⟩ := id C
  exact lv_i2c hx hb hd rfl (h p e s m args below meth c H locs lsA C)
theorem z_lcmp {a b : Int64} (hd : decode (xb X) pc = .ok (.lcmp, 1)) (hn : pc + 1 = pc') (h : Zz X cu su pc' ls (.int (lg_cmp a b) :: st) M) : Zz X cu su pc ls (.long b :: .long a :: st) M := by
  subst hn
  intro p e s m args below meth c H locs lsA C
  obtain ⟨⟨hx, hb, hr, hml, hown, hts, hlk, htb, hls⟩, ⟨hK, hSt, hsz⟩, ⟨hP, hD, hS⟩, hl⟩ := id C
  exact W.lcmp hx hb hd (h p e s m args below meth c H locs lsA C)
theorem z_iconst {n : Int} {v : Int32} (hd : decode (xb X) pc = .ok (.iconst n, 1)) (hv : Int32.ofInt n = v) (hn : pc + 1 = pc') (h : Zz X cu su pc' ls (.int v :: st) M) : Zz X cu su pc ls (st) M := by
  subst hn
  intro p e s m args below meth c H locs lsA C
  obtain ⟨⟨hx, hb, hr, hml, hown, hts, hlk, htb, hls⟩, ⟨hK, hSt, hsz⟩, ⟨hP, hD, hS⟩, hl⟩ := id C
  exact lv_iconst hx hb hd hv (h p e s m args below meth c H locs lsA C)
theorem z_bipush {n : Int} {v : Int32} (hd : decode (xb X) pc = .ok (.bipush n, 2)) (hv : (Int8.ofInt n).toInt32 = v) (hn : pc + 2 = pc') (h : Zz X cu su pc' ls (.int v :: st) M) : Zz X cu su pc ls (st) M := by
  subst hn
  intro p e s m args below meth c H locs lsA C
  obtain ⟨⟨hx, hb, hr, hml, hown, hts, hlk, htb, hls⟩, ⟨hK, hSt, hsz⟩, ⟨hP, hD, hS⟩, hl⟩ := id C
  exact lv_bipush hx hb hd hv (h p e s m args below meth c H locs lsA C)
theorem z_sipush {n : Int} {v : Int32} (hd : decode (xb X) pc = .ok (.sipush n, 3)) (hv : (Int16.ofInt n).toInt32 = v) (hn : pc + 3 = pc') (h : Zz X cu su pc' ls (.int v :: st) M) : Zz X cu su pc ls (st) M := by
  subst hn
  intro p e s m args below meth c H locs lsA C
  obtain ⟨⟨hx, hb, hr, hml, hown, hts, hlk, htb, hls⟩, ⟨hK, hSt, hsz⟩, ⟨hP, hD, hS⟩, hl⟩ := id C
  exact lv_sipush hx hb hd hv (h p e s m args below meth c H locs lsA C)
theorem z_ldc {ix : Nat} {v : Int32} (hd : decode (xb X) pc = .ok (.ldc ix, 2)) (hw : Cond.constant (xo X) ix v ∈ W0) (hn : pc + 2 = pc') (h : Zz X cu su pc' ls (.int v :: st) M) : Zz X cu su pc ls st M := by
  subst hn
  intro p e s m args below meth c H locs lsA C
  obtain ⟨⟨hx, hb, hr, hml, hown, hts, hlk, htb, hls⟩, ⟨hK, hSt, hsz⟩, ⟨hP, hD, hS⟩, hl⟩ := id C
  exact lv_ldc hx hb hown (hts _ hw) hd (h p e s m args below meth c H locs lsA C)
theorem z_ldc2 {ix : Nat} {v : Int64} (hd : decode (xb X) pc = .ok (.ldc2_w ix, 3)) (hw : Cond.constantLong (xo X) ix v ∈ W0) (hn : pc + 3 = pc') (h : Zz X cu su pc' ls (.long v :: st) M) : Zz X cu su pc ls st M := by
  subst hn
  intro p e s m args below meth c H locs lsA C
  obtain ⟨⟨hx, hb, hr, hml, hown, hts, hlk, htb, hls⟩, ⟨hK, hSt, hsz⟩, ⟨hP, hD, hS⟩, hl⟩ := id C
  exact lv_ldc2 hx hb hown (hts _ hw) hd (h p e s m args below meth c H locs lsA C)
theorem z_ldcS {ix : Nat} {tx : String} {i : Nat} (hd : decode (xb X) pc = .ok (.ldc ix, 2)) (hw : (xo X, ix, tx, i) ∈ SRl) (hn : pc + 2 = pc') (h : Zz X cu su pc' ls (.ref (1000 + i) :: st) M) : Zz X cu su pc ls st M := by
  subst hn
  intro p e s m args below meth c H locs lsA C
  obtain ⟨⟨hx, hb, hr, hml, hown, hts, hlk, htb, hls⟩, ⟨hK, hSt, hsz⟩, ⟨hP, hD, hS⟩, hl⟩ := id C
  exact va_ldcS hx hb hown (hSt.2.2.1 _ hw) hd (h p e s m args below meth c H locs lsA C)
theorem z_iload_n {k : Fin 4} {v : Int32} (hd : decode (xb X) pc = .ok (.iload_n k, 1)) (hv : ls[k.val]? = some (some (.int v))) (hn : pc + 1 = pc') (h : Zz X cu su pc' ls (.int v :: st) M) : Zz X cu su pc ls st M := by
  subst hn
  intro p e s m args below meth c H locs lsA C
  obtain ⟨⟨hx, hb, hr, hml, hown, hts, hlk, htb, hls⟩, ⟨hK, hSt, hsz⟩, ⟨hP, hD, hS⟩, hl⟩ := id C
  exact lv_iload_n hx hb hd rfl (lvo_at hl hv rfl) (h p e s m args below meth c H locs lsA C)
theorem z_iload {k : Nat} {v : Int32} (hd : decode (xb X) pc = .ok (.iload k, 2)) (hv : ls[k]? = some (some (.int v))) (hn : pc + 2 = pc') (h : Zz X cu su pc' ls (.int v :: st) M) : Zz X cu su pc ls st M := by
  subst hn
  intro p e s m args below meth c H locs lsA C
  obtain ⟨⟨hx, hb, hr, hml, hown, hts, hlk, htb, hls⟩, ⟨hK, hSt, hsz⟩, ⟨hP, hD, hS⟩, hl⟩ := id C
  exact lv_iload hx hb hd (lvo_at hl hv rfl) (h p e s m args below meth c H locs lsA C)
theorem z_aload_n {k : Fin 4} {v : Nat} (hd : decode (xb X) pc = .ok (.aload_n k, 1)) (hv : ls[k.val]? = some (some (.ref v))) (hn : pc + 1 = pc') (h : Zz X cu su pc' ls (.ref v :: st) M) : Zz X cu su pc ls st M := by
  subst hn
  intro p e s m args below meth c H locs lsA C
  obtain ⟨⟨hx, hb, hr, hml, hown, hts, hlk, htb, hls⟩, ⟨hK, hSt, hsz⟩, ⟨hP, hD, hS⟩, hl⟩ := id C
  exact lv_aload_n hx hb hd rfl (lvo_at hl hv rfl) (h p e s m args below meth c H locs lsA C)
theorem z_aload {k : Nat} {v : Nat} (hd : decode (xb X) pc = .ok (.aload k, 2)) (hv : ls[k]? = some (some (.ref v))) (hn : pc + 2 = pc') (h : Zz X cu su pc' ls (.ref v :: st) M) : Zz X cu su pc ls st M := by
  subst hn
  intro p e s m args below meth c H locs lsA C
  obtain ⟨⟨hx, hb, hr, hml, hown, hts, hlk, htb, hls⟩, ⟨hK, hSt, hsz⟩, ⟨hP, hD, hS⟩, hl⟩ := id C
  exact lv_aload hx hb hd (lvo_at hl hv rfl) (h p e s m args below meth c H locs lsA C)
theorem z_istore_n {k : Fin 4} {v : Int32} {ls2 : List (Option Value)} (hd : decode (xb X) pc = .ok (.istore_n k, 1)) (hL : k.val < xn X) (hs : ls.set k.val (some (.int v)) = ls2) (hn : pc + 1 = pc') (h : Zz X cu su pc' ls2 st M) : Zz X cu su pc ls (.int v :: st) M := by
  subst hn
  intro p e s m args below meth c H locs lsA C
  obtain ⟨⟨hx, hb, hr, hml, hown, hts, hlk, htb, hls⟩, ⟨hK, hSt, hsz⟩, ⟨hP, hD, hS⟩, hl⟩ := id C
  exact lv_istore_n hx hb hd rfl hl hL rfl (fun ls' hl' => h p e s m args below meth c H locs ls' ⟨C.1, C.2.1, C.2.2.1, by rw [← hs]; exact lvo_set hl'⟩)
theorem z_istore {k : Nat} {v : Int32} {ls2 : List (Option Value)} (hd : decode (xb X) pc = .ok (.istore k, 2)) (hL : k < xn X) (hs : ls.set k (some (.int v)) = ls2) (hn : pc + 2 = pc') (h : Zz X cu su pc' ls2 st M) : Zz X cu su pc ls (.int v :: st) M := by
  subst hn
  intro p e s m args below meth c H locs lsA C
  obtain ⟨⟨hx, hb, hr, hml, hown, hts, hlk, htb, hls⟩, ⟨hK, hSt, hsz⟩, ⟨hP, hD, hS⟩, hl⟩ := id C
  exact lv_istore hx hb hd hl hL rfl (fun ls' hl' => h p e s m args below meth c H locs ls' ⟨C.1, C.2.1, C.2.2.1, by rw [← hs]; exact lvo_set hl'⟩)
theorem z_astore_n {k : Fin 4} {v : Nat} {ls2 : List (Option Value)} (hd : decode (xb X) pc = .ok (.astore_n k, 1)) (hL : k.val < xn X) (hs : ls.set k.val (some (.ref v)) = ls2) (hn : pc + 1 = pc') (h : Zz X cu su pc' ls2 st M) : Zz X cu su pc ls (.ref v :: st) M := by
  subst hn
  intro p e s m args below meth c H locs lsA C
  obtain ⟨⟨hx, hb, hr, hml, hown, hts, hlk, htb, hls⟩, ⟨hK, hSt, hsz⟩, ⟨hP, hD, hS⟩, hl⟩ := id C
  exact lv_astore_n hx hb hd rfl hl hL rfl (fun ls' hl' => h p e s m args below meth c H locs ls' ⟨C.1, C.2.1, C.2.2.1, by rw [← hs]; exact lvo_set hl'⟩)
theorem z_astore {k : Nat} {v : Nat} {ls2 : List (Option Value)} (hd : decode (xb X) pc = .ok (.astore k, 2)) (hL : k < xn X) (hs : ls.set k (some (.ref v)) = ls2) (hn : pc + 2 = pc') (h : Zz X cu su pc' ls2 st M) : Zz X cu su pc ls (.ref v :: st) M := by
  subst hn
  intro p e s m args below meth c H locs lsA C
  obtain ⟨⟨hx, hb, hr, hml, hown, hts, hlk, htb, hls⟩, ⟨hK, hSt, hsz⟩, ⟨hP, hD, hS⟩, hl⟩ := id C
  exact lv_astore hx hb hd hl hL rfl (fun ls' hl' => h p e s m args below meth c H locs ls' ⟨C.1, C.2.1, C.2.2.1, by rw [← hs]; exact lvo_set hl'⟩)
theorem z_iinc {k : Nat} {n : Int} {v : Int32} {ls2 : List (Option Value)} (hd : decode (xb X) pc = .ok (.iinc k n, 3)) (hv : ls[k]? = some (some (.int v))) (hL : k < xn X) (hs : ls.set k (some (.int (v + Int32.ofInt n))) = ls2) (hn : pc + 3 = pc') (h : Zz X cu su pc' ls2 st M) : Zz X cu su pc ls st M := by
  subst hn
  intro p e s m args below meth c H locs lsA C
  obtain ⟨⟨hx, hb, hr, hml, hown, hts, hlk, htb, hls⟩, ⟨hK, hSt, hsz⟩, ⟨hP, hD, hS⟩, hl⟩ := id C
  obtain ⟨i, hi⟩ := List.getElem?_of_mem (lvo_in (ad := eAd X.2.1) (i := 0) hv rfl)
  rw [Nat.zero_add] at hi
  exact lv_iinc hx hb hd hl (k := i) hi rfl hL rfl (fun ls' hl' => h p e s m args below meth c H locs ls' ⟨C.1, C.2.1, C.2.2.1, by rw [← hs]; exact lvo_set hl'⟩)
theorem z_ist0 {o0 : Option Value} {t : List (Option Value)} {v : Int32} (hd : decode (xb X) pc = .ok (.istore_n 0, 1)) (hL : 0 < xn X) (hn : pc + 1 = pc') (h : Zz X cu su pc' (some (.int v) :: t) st M) : Zz X cu su pc (o0 :: t) (.int v :: st) M := z_istore_n hd hL rfl hn h
theorem z_ast0 {o0 : Option Value} {t : List (Option Value)} {v : Nat} (hd : decode (xb X) pc = .ok (.astore_n 0, 1)) (hL : 0 < xn X) (hn : pc + 1 = pc') (h : Zz X cu su pc' (some (.ref v) :: t) st M) : Zz X cu su pc (o0 :: t) (.ref v :: st) M := z_astore_n hd hL rfl hn h
theorem z_inc0 {t : List (Option Value)} {n : Int} {v r : Int32} (hd : decode (xb X) pc = .ok (.iinc 0 n, 3)) (hL : 0 < xn X) (hr9 : v + Int32.ofInt n = r) (hn : pc + 3 = pc') (h : Zz X cu su pc' (some (.int r) :: t) st M) : Zz X cu su pc (some (.int v) :: t) st M := z_iinc hd rfl hL (by rw [hr9]; rfl) hn h
theorem z_ist1 {o0 o1 : Option Value} {t : List (Option Value)} {v : Int32} (hd : decode (xb X) pc = .ok (.istore_n 1, 1)) (hL : 1 < xn X) (hn : pc + 1 = pc') (h : Zz X cu su pc' (o0 :: some (.int v) :: t) st M) : Zz X cu su pc (o0 :: o1 :: t) (.int v :: st) M := z_istore_n hd hL rfl hn h
theorem z_ast1 {o0 o1 : Option Value} {t : List (Option Value)} {v : Nat} (hd : decode (xb X) pc = .ok (.astore_n 1, 1)) (hL : 1 < xn X) (hn : pc + 1 = pc') (h : Zz X cu su pc' (o0 :: some (.ref v) :: t) st M) : Zz X cu su pc (o0 :: o1 :: t) (.ref v :: st) M := z_astore_n hd hL rfl hn h
theorem z_inc1 {o0 : Option Value} {t : List (Option Value)} {n : Int} {v r : Int32} (hd : decode (xb X) pc = .ok (.iinc 1 n, 3)) (hL : 1 < xn X) (hr9 : v + Int32.ofInt n = r) (hn : pc + 3 = pc') (h : Zz X cu su pc' (o0 :: some (.int r) :: t) st M) : Zz X cu su pc (o0 :: some (.int v) :: t) st M := z_iinc hd rfl hL (by rw [hr9]; rfl) hn h
theorem z_ist2 {o0 o1 o2 : Option Value} {t : List (Option Value)} {v : Int32} (hd : decode (xb X) pc = .ok (.istore_n 2, 1)) (hL : 2 < xn X) (hn : pc + 1 = pc') (h : Zz X cu su pc' (o0 :: o1 :: some (.int v) :: t) st M) : Zz X cu su pc (o0 :: o1 :: o2 :: t) (.int v :: st) M := z_istore_n hd hL rfl hn h
theorem z_ast2 {o0 o1 o2 : Option Value} {t : List (Option Value)} {v : Nat} (hd : decode (xb X) pc = .ok (.astore_n 2, 1)) (hL : 2 < xn X) (hn : pc + 1 = pc') (h : Zz X cu su pc' (o0 :: o1 :: some (.ref v) :: t) st M) : Zz X cu su pc (o0 :: o1 :: o2 :: t) (.ref v :: st) M := z_astore_n hd hL rfl hn h
theorem z_inc2 {o0 o1 : Option Value} {t : List (Option Value)} {n : Int} {v r : Int32} (hd : decode (xb X) pc = .ok (.iinc 2 n, 3)) (hL : 2 < xn X) (hr9 : v + Int32.ofInt n = r) (hn : pc + 3 = pc') (h : Zz X cu su pc' (o0 :: o1 :: some (.int r) :: t) st M) : Zz X cu su pc (o0 :: o1 :: some (.int v) :: t) st M := z_iinc hd rfl hL (by rw [hr9]; rfl) hn h
theorem z_ist3 {o0 o1 o2 o3 : Option Value} {t : List (Option Value)} {v : Int32} (hd : decode (xb X) pc = .ok (.istore_n 3, 1)) (hL : 3 < xn X) (hn : pc + 1 = pc') (h : Zz X cu su pc' (o0 :: o1 :: o2 :: some (.int v) :: t) st M) : Zz X cu su pc (o0 :: o1 :: o2 :: o3 :: t) (.int v :: st) M := z_istore_n hd hL rfl hn h
theorem z_ast3 {o0 o1 o2 o3 : Option Value} {t : List (Option Value)} {v : Nat} (hd : decode (xb X) pc = .ok (.astore_n 3, 1)) (hL : 3 < xn X) (hn : pc + 1 = pc') (h : Zz X cu su pc' (o0 :: o1 :: o2 :: some (.ref v) :: t) st M) : Zz X cu su pc (o0 :: o1 :: o2 :: o3 :: t) (.ref v :: st) M := z_astore_n hd hL rfl hn h
theorem z_inc3 {o0 o1 o2 : Option Value} {t : List (Option Value)} {n : Int} {v r : Int32} (hd : decode (xb X) pc = .ok (.iinc 3 n, 3)) (hL : 3 < xn X) (hr9 : v + Int32.ofInt n = r) (hn : pc + 3 = pc') (h : Zz X cu su pc' (o0 :: o1 :: o2 :: some (.int r) :: t) st M) : Zz X cu su pc (o0 :: o1 :: o2 :: some (.int v) :: t) st M := z_iinc hd rfl hL (by rw [hr9]; rfl) hn h
theorem z_ist4 {o0 o1 o2 o3 o4 : Option Value} {t : List (Option Value)} {v : Int32} (hd : decode (xb X) pc = .ok (.istore 4, 2)) (hL : 4 < xn X) (hn : pc + 2 = pc') (h : Zz X cu su pc' (o0 :: o1 :: o2 :: o3 :: some (.int v) :: t) st M) : Zz X cu su pc (o0 :: o1 :: o2 :: o3 :: o4 :: t) (.int v :: st) M := z_istore hd hL rfl hn h
theorem z_ast4 {o0 o1 o2 o3 o4 : Option Value} {t : List (Option Value)} {v : Nat} (hd : decode (xb X) pc = .ok (.astore 4, 2)) (hL : 4 < xn X) (hn : pc + 2 = pc') (h : Zz X cu su pc' (o0 :: o1 :: o2 :: o3 :: some (.ref v) :: t) st M) : Zz X cu su pc (o0 :: o1 :: o2 :: o3 :: o4 :: t) (.ref v :: st) M := z_astore hd hL rfl hn h
theorem z_inc4 {o0 o1 o2 o3 : Option Value} {t : List (Option Value)} {n : Int} {v r : Int32} (hd : decode (xb X) pc = .ok (.iinc 4 n, 3)) (hL : 4 < xn X) (hr9 : v + Int32.ofInt n = r) (hn : pc + 3 = pc') (h : Zz X cu su pc' (o0 :: o1 :: o2 :: o3 :: some (.int r) :: t) st M) : Zz X cu su pc (o0 :: o1 :: o2 :: o3 :: some (.int v) :: t) st M := z_iinc hd rfl hL (by rw [hr9]; rfl) hn h
theorem z_ist5 {o0 o1 o2 o3 o4 o5 : Option Value} {t : List (Option Value)} {v : Int32} (hd : decode (xb X) pc = .ok (.istore 5, 2)) (hL : 5 < xn X) (hn : pc + 2 = pc') (h : Zz X cu su pc' (o0 :: o1 :: o2 :: o3 :: o4 :: some (.int v) :: t) st M) : Zz X cu su pc (o0 :: o1 :: o2 :: o3 :: o4 :: o5 :: t) (.int v :: st) M := z_istore hd hL rfl hn h
theorem z_ast5 {o0 o1 o2 o3 o4 o5 : Option Value} {t : List (Option Value)} {v : Nat} (hd : decode (xb X) pc = .ok (.astore 5, 2)) (hL : 5 < xn X) (hn : pc + 2 = pc') (h : Zz X cu su pc' (o0 :: o1 :: o2 :: o3 :: o4 :: some (.ref v) :: t) st M) : Zz X cu su pc (o0 :: o1 :: o2 :: o3 :: o4 :: o5 :: t) (.ref v :: st) M := z_astore hd hL rfl hn h
theorem z_inc5 {o0 o1 o2 o3 o4 : Option Value} {t : List (Option Value)} {n : Int} {v r : Int32} (hd : decode (xb X) pc = .ok (.iinc 5 n, 3)) (hL : 5 < xn X) (hr9 : v + Int32.ofInt n = r) (hn : pc + 3 = pc') (h : Zz X cu su pc' (o0 :: o1 :: o2 :: o3 :: o4 :: some (.int r) :: t) st M) : Zz X cu su pc (o0 :: o1 :: o2 :: o3 :: o4 :: some (.int v) :: t) st M := z_iinc hd rfl hL (by rw [hr9]; rfl) hn h
theorem z_ist6 {o0 o1 o2 o3 o4 o5 o6 : Option Value} {t : List (Option Value)} {v : Int32} (hd : decode (xb X) pc = .ok (.istore 6, 2)) (hL : 6 < xn X) (hn : pc + 2 = pc') (h : Zz X cu su pc' (o0 :: o1 :: o2 :: o3 :: o4 :: o5 :: some (.int v) :: t) st M) : Zz X cu su pc (o0 :: o1 :: o2 :: o3 :: o4 :: o5 :: o6 :: t) (.int v :: st) M := z_istore hd hL rfl hn h
theorem z_ast6 {o0 o1 o2 o3 o4 o5 o6 : Option Value} {t : List (Option Value)} {v : Nat} (hd : decode (xb X) pc = .ok (.astore 6, 2)) (hL : 6 < xn X) (hn : pc + 2 = pc') (h : Zz X cu su pc' (o0 :: o1 :: o2 :: o3 :: o4 :: o5 :: some (.ref v) :: t) st M) : Zz X cu su pc (o0 :: o1 :: o2 :: o3 :: o4 :: o5 :: o6 :: t) (.ref v :: st) M := z_astore hd hL rfl hn h
theorem z_inc6 {o0 o1 o2 o3 o4 o5 : Option Value} {t : List (Option Value)} {n : Int} {v r : Int32} (hd : decode (xb X) pc = .ok (.iinc 6 n, 3)) (hL : 6 < xn X) (hr9 : v + Int32.ofInt n = r) (hn : pc + 3 = pc') (h : Zz X cu su pc' (o0 :: o1 :: o2 :: o3 :: o4 :: o5 :: some (.int r) :: t) st M) : Zz X cu su pc (o0 :: o1 :: o2 :: o3 :: o4 :: o5 :: some (.int v) :: t) st M := z_iinc hd rfl hL (by rw [hr9]; rfl) hn h
theorem z_ist7 {o0 o1 o2 o3 o4 o5 o6 o7 : Option Value} {t : List (Option Value)} {v : Int32} (hd : decode (xb X) pc = .ok (.istore 7, 2)) (hL : 7 < xn X) (hn : pc + 2 = pc') (h : Zz X cu su pc' (o0 :: o1 :: o2 :: o3 :: o4 :: o5 :: o6 :: some (.int v) :: t) st M) : Zz X cu su pc (o0 :: o1 :: o2 :: o3 :: o4 :: o5 :: o6 :: o7 :: t) (.int v :: st) M := z_istore hd hL rfl hn h
theorem z_ast7 {o0 o1 o2 o3 o4 o5 o6 o7 : Option Value} {t : List (Option Value)} {v : Nat} (hd : decode (xb X) pc = .ok (.astore 7, 2)) (hL : 7 < xn X) (hn : pc + 2 = pc') (h : Zz X cu su pc' (o0 :: o1 :: o2 :: o3 :: o4 :: o5 :: o6 :: some (.ref v) :: t) st M) : Zz X cu su pc (o0 :: o1 :: o2 :: o3 :: o4 :: o5 :: o6 :: o7 :: t) (.ref v :: st) M := z_astore hd hL rfl hn h
theorem z_inc7 {o0 o1 o2 o3 o4 o5 o6 : Option Value} {t : List (Option Value)} {n : Int} {v r : Int32} (hd : decode (xb X) pc = .ok (.iinc 7 n, 3)) (hL : 7 < xn X) (hr9 : v + Int32.ofInt n = r) (hn : pc + 3 = pc') (h : Zz X cu su pc' (o0 :: o1 :: o2 :: o3 :: o4 :: o5 :: o6 :: some (.int r) :: t) st M) : Zz X cu su pc (o0 :: o1 :: o2 :: o3 :: o4 :: o5 :: o6 :: some (.int v) :: t) st M := z_iinc hd rfl hL (by rw [hr9]; rfl) hn h
theorem z_ist8 {o0 o1 o2 o3 o4 o5 o6 o7 o8 : Option Value} {t : List (Option Value)} {v : Int32} (hd : decode (xb X) pc = .ok (.istore 8, 2)) (hL : 8 < xn X) (hn : pc + 2 = pc') (h : Zz X cu su pc' (o0 :: o1 :: o2 :: o3 :: o4 :: o5 :: o6 :: o7 :: some (.int v) :: t) st M) : Zz X cu su pc (o0 :: o1 :: o2 :: o3 :: o4 :: o5 :: o6 :: o7 :: o8 :: t) (.int v :: st) M := z_istore hd hL rfl hn h
theorem z_ast8 {o0 o1 o2 o3 o4 o5 o6 o7 o8 : Option Value} {t : List (Option Value)} {v : Nat} (hd : decode (xb X) pc = .ok (.astore 8, 2)) (hL : 8 < xn X) (hn : pc + 2 = pc') (h : Zz X cu su pc' (o0 :: o1 :: o2 :: o3 :: o4 :: o5 :: o6 :: o7 :: some (.ref v) :: t) st M) : Zz X cu su pc (o0 :: o1 :: o2 :: o3 :: o4 :: o5 :: o6 :: o7 :: o8 :: t) (.ref v :: st) M := z_astore hd hL rfl hn h
theorem z_inc8 {o0 o1 o2 o3 o4 o5 o6 o7 : Option Value} {t : List (Option Value)} {n : Int} {v r : Int32} (hd : decode (xb X) pc = .ok (.iinc 8 n, 3)) (hL : 8 < xn X) (hr9 : v + Int32.ofInt n = r) (hn : pc + 3 = pc') (h : Zz X cu su pc' (o0 :: o1 :: o2 :: o3 :: o4 :: o5 :: o6 :: o7 :: some (.int r) :: t) st M) : Zz X cu su pc (o0 :: o1 :: o2 :: o3 :: o4 :: o5 :: o6 :: o7 :: some (.int v) :: t) st M := z_iinc hd rfl hL (by rw [hr9]; rfl) hn h
theorem z_iu0 {t : List (Option Value)} {j : Nat} (hd : decode (xb X) pc = .ok (.iinc 0 1, 3)) (hL : 0 < xn X) (hn : pc + 3 = pc') (h : Zz X cu su pc' (some (.int (nI (j + 1))) :: t) st M) : Zz X cu su pc (some (.int (nI j)) :: t) st M := z_inc0 hd hL (nI_1 j) hn h
theorem z_iu1 {o0 : Option Value} {t : List (Option Value)} {j : Nat} (hd : decode (xb X) pc = .ok (.iinc 1 1, 3)) (hL : 1 < xn X) (hn : pc + 3 = pc') (h : Zz X cu su pc' (o0 :: some (.int (nI (j + 1))) :: t) st M) : Zz X cu su pc (o0 :: some (.int (nI j)) :: t) st M := z_inc1 hd hL (nI_1 j) hn h
theorem z_iu2 {o0 o1 : Option Value} {t : List (Option Value)} {j : Nat} (hd : decode (xb X) pc = .ok (.iinc 2 1, 3)) (hL : 2 < xn X) (hn : pc + 3 = pc') (h : Zz X cu su pc' (o0 :: o1 :: some (.int (nI (j + 1))) :: t) st M) : Zz X cu su pc (o0 :: o1 :: some (.int (nI j)) :: t) st M := z_inc2 hd hL (nI_1 j) hn h
theorem z_iu3 {o0 o1 o2 : Option Value} {t : List (Option Value)} {j : Nat} (hd : decode (xb X) pc = .ok (.iinc 3 1, 3)) (hL : 3 < xn X) (hn : pc + 3 = pc') (h : Zz X cu su pc' (o0 :: o1 :: o2 :: some (.int (nI (j + 1))) :: t) st M) : Zz X cu su pc (o0 :: o1 :: o2 :: some (.int (nI j)) :: t) st M := z_inc3 hd hL (nI_1 j) hn h
theorem z_iu4 {o0 o1 o2 o3 : Option Value} {t : List (Option Value)} {j : Nat} (hd : decode (xb X) pc = .ok (.iinc 4 1, 3)) (hL : 4 < xn X) (hn : pc + 3 = pc') (h : Zz X cu su pc' (o0 :: o1 :: o2 :: o3 :: some (.int (nI (j + 1))) :: t) st M) : Zz X cu su pc (o0 :: o1 :: o2 :: o3 :: some (.int (nI j)) :: t) st M := z_inc4 hd hL (nI_1 j) hn h
theorem z_iu5 {o0 o1 o2 o3 o4 : Option Value} {t : List (Option Value)} {j : Nat} (hd : decode (xb X) pc = .ok (.iinc 5 1, 3)) (hL : 5 < xn X) (hn : pc + 3 = pc') (h : Zz X cu su pc' (o0 :: o1 :: o2 :: o3 :: o4 :: some (.int (nI (j + 1))) :: t) st M) : Zz X cu su pc (o0 :: o1 :: o2 :: o3 :: o4 :: some (.int (nI j)) :: t) st M := z_inc5 hd hL (nI_1 j) hn h
theorem z_iu6 {o0 o1 o2 o3 o4 o5 : Option Value} {t : List (Option Value)} {j : Nat} (hd : decode (xb X) pc = .ok (.iinc 6 1, 3)) (hL : 6 < xn X) (hn : pc + 3 = pc') (h : Zz X cu su pc' (o0 :: o1 :: o2 :: o3 :: o4 :: o5 :: some (.int (nI (j + 1))) :: t) st M) : Zz X cu su pc (o0 :: o1 :: o2 :: o3 :: o4 :: o5 :: some (.int (nI j)) :: t) st M := z_inc6 hd hL (nI_1 j) hn h
theorem z_iu7 {o0 o1 o2 o3 o4 o5 o6 : Option Value} {t : List (Option Value)} {j : Nat} (hd : decode (xb X) pc = .ok (.iinc 7 1, 3)) (hL : 7 < xn X) (hn : pc + 3 = pc') (h : Zz X cu su pc' (o0 :: o1 :: o2 :: o3 :: o4 :: o5 :: o6 :: some (.int (nI (j + 1))) :: t) st M) : Zz X cu su pc (o0 :: o1 :: o2 :: o3 :: o4 :: o5 :: o6 :: some (.int (nI j)) :: t) st M := z_inc7 hd hL (nI_1 j) hn h
theorem z_iu8 {o0 o1 o2 o3 o4 o5 o6 o7 : Option Value} {t : List (Option Value)} {j : Nat} (hd : decode (xb X) pc = .ok (.iinc 8 1, 3)) (hL : 8 < xn X) (hn : pc + 3 = pc') (h : Zz X cu su pc' (o0 :: o1 :: o2 :: o3 :: o4 :: o5 :: o6 :: o7 :: some (.int (nI (j + 1))) :: t) st M) : Zz X cu su pc (o0 :: o1 :: o2 :: o3 :: o4 :: o5 :: o6 :: o7 :: some (.int (nI j)) :: t) st M := z_inc8 hd hL (nI_1 j) hn h
theorem z_dup {v : Value} (hd : decode (xb X) pc = .ok (.dup, 1)) (hv : v.category = 1) (hn : pc + 1 = pc') (h : Zz X cu su pc' ls (v :: v :: st) M) : Zz X cu su pc ls (v :: st) M := by
  subst hn
  intro p e s m args below meth c H locs lsA C
  obtain ⟨⟨hx, hb, hr, hml, hown, hts, hlk, htb, hls⟩, ⟨hK, hSt, hsz⟩, ⟨hP, hD, hS⟩, hl⟩ := id C
  exact lv_dup hx hb hd (by rw [trv_cat]; exact hv) (h p e s m args below meth c H locs lsA C)
theorem z_pop {v : Value} (hd : decode (xb X) pc = .ok (.pop, 1)) (hv : v.category = 1) (hn : pc + 1 = pc') (h : Zz X cu su pc' ls st M) : Zz X cu su pc ls (v :: st) M := by
  subst hn
  intro p e s m args below meth c H locs lsA C
  obtain ⟨⟨hx, hb, hr, hml, hown, hts, hlk, htb, hls⟩, ⟨hK, hSt, hsz⟩, ⟨hP, hD, hS⟩, hl⟩ := id C
  exact lv_pop hx hb hd (by rw [trv_cat]; exact hv) (h p e s m args below meth c H locs lsA C)
theorem z_dup2 {v u : Value} (hd : decode (xb X) pc = .ok (.dup2, 1)) (hv : v.category = 1) (hu : u.category = 1) (hn : pc + 1 = pc') (h : Zz X cu su pc' ls (v :: u :: v :: u :: st) M) : Zz X cu su pc ls (v :: u :: st) M := by
  subst hn
  intro p e s m args below meth c H locs lsA C
  obtain ⟨⟨hx, hb, hr, hml, hown, hts, hlk, htb, hls⟩, ⟨hK, hSt, hsz⟩, ⟨hP, hD, hS⟩, hl⟩ := id C
  exact lv_dup2_11 hx hb hd (by rw [trv_cat]; exact hv) (by rw [trv_cat]; exact hu) (h p e s m args below meth c H locs lsA C)
theorem z_icmp_eq {a b : Int32} {off : Int} {tgt : Nat} (hd : decode (xb X) pc = .ok (.if_icmp .eq off, 3)) (ht : (pc : Int) + off = (tgt : Int)) (hn : pc + 3 = pc') (h : a = b → Zz X cu su tgt ls st M) (h2 : ¬ a = b → Zz X cu su pc' ls st M) : Zz X cu su pc ls (.int b :: .int a :: st) M := by
  subst hn
  intro p e s m args below meth c H locs lsA C
  obtain ⟨⟨hx, hb, hr, hml, hown, hts, hlk, htb, hls⟩, ⟨hK, hSt, hsz⟩, ⟨hP, hD, hS⟩, hl⟩ := id C
  exact lv_icmp_eq hx hb hd ht (fun q => h q p e s m args below meth c H locs lsA C) (fun q => h2 q p e s m args below meth c H locs lsA C)
theorem z_icmp_ne {a b : Int32} {off : Int} {tgt : Nat} (hd : decode (xb X) pc = .ok (.if_icmp .ne off, 3)) (ht : (pc : Int) + off = (tgt : Int)) (hn : pc + 3 = pc') (h : ¬ a = b → Zz X cu su tgt ls st M) (h2 : a = b → Zz X cu su pc' ls st M) : Zz X cu su pc ls (.int b :: .int a :: st) M := by
  subst hn
  intro p e s m args below meth c H locs lsA C
  obtain ⟨⟨hx, hb, hr, hml, hown, hts, hlk, htb, hls⟩, ⟨hK, hSt, hsz⟩, ⟨hP, hD, hS⟩, hl⟩ := id C
  exact lv_icmp_ne hx hb hd ht (fun q => h q p e s m args below meth c H locs lsA C) (fun q => h2 q p e s m args below meth c H locs lsA C)
theorem z_icmp_lt {a b : Int32} {off : Int} {tgt : Nat} (hd : decode (xb X) pc = .ok (.if_icmp .lt off, 3)) (ht : (pc : Int) + off = (tgt : Int)) (hn : pc + 3 = pc') (h : a < b → Zz X cu su tgt ls st M) (h2 : ¬ a < b → Zz X cu su pc' ls st M) : Zz X cu su pc ls (.int b :: .int a :: st) M := by
  subst hn
  intro p e s m args below meth c H locs lsA C
  obtain ⟨⟨hx, hb, hr, hml, hown, hts, hlk, htb, hls⟩, ⟨hK, hSt, hsz⟩, ⟨hP, hD, hS⟩, hl⟩ := id C
  exact lv_icmp_lt hx hb hd ht (fun q => h q p e s m args below meth c H locs lsA C) (fun q => h2 q p e s m args below meth c H locs lsA C)
theorem z_icmp_ge {a b : Int32} {off : Int} {tgt : Nat} (hd : decode (xb X) pc = .ok (.if_icmp .ge off, 3)) (ht : (pc : Int) + off = (tgt : Int)) (hn : pc + 3 = pc') (h : b ≤ a → Zz X cu su tgt ls st M) (h2 : ¬ b ≤ a → Zz X cu su pc' ls st M) : Zz X cu su pc ls (.int b :: .int a :: st) M := by
  subst hn
  intro p e s m args below meth c H locs lsA C
  obtain ⟨⟨hx, hb, hr, hml, hown, hts, hlk, htb, hls⟩, ⟨hK, hSt, hsz⟩, ⟨hP, hD, hS⟩, hl⟩ := id C
  exact lv_icmp_ge hx hb hd ht (fun q => h q p e s m args below meth c H locs lsA C) (fun q => h2 q p e s m args below meth c H locs lsA C)
theorem z_icmp_gt {a b : Int32} {off : Int} {tgt : Nat} (hd : decode (xb X) pc = .ok (.if_icmp .gt off, 3)) (ht : (pc : Int) + off = (tgt : Int)) (hn : pc + 3 = pc') (h : b < a → Zz X cu su tgt ls st M) (h2 : ¬ b < a → Zz X cu su pc' ls st M) : Zz X cu su pc ls (.int b :: .int a :: st) M := by
  subst hn
  intro p e s m args below meth c H locs lsA C
  obtain ⟨⟨hx, hb, hr, hml, hown, hts, hlk, htb, hls⟩, ⟨hK, hSt, hsz⟩, ⟨hP, hD, hS⟩, hl⟩ := id C
  exact lv_icmp_gt hx hb hd ht (fun q => h q p e s m args below meth c H locs lsA C) (fun q => h2 q p e s m args below meth c H locs lsA C)
theorem z_icmp_le {a b : Int32} {off : Int} {tgt : Nat} (hd : decode (xb X) pc = .ok (.if_icmp .le off, 3)) (ht : (pc : Int) + off = (tgt : Int)) (hn : pc + 3 = pc') (h : a ≤ b → Zz X cu su tgt ls st M) (h2 : ¬ a ≤ b → Zz X cu su pc' ls st M) : Zz X cu su pc ls (.int b :: .int a :: st) M := by
  subst hn
  intro p e s m args below meth c H locs lsA C
  obtain ⟨⟨hx, hb, hr, hml, hown, hts, hlk, htb, hls⟩, ⟨hK, hSt, hsz⟩, ⟨hP, hD, hS⟩, hl⟩ := id C
  exact lv_icmp_le hx hb hd ht (fun q => h q p e s m args below meth c H locs lsA C) (fun q => h2 q p e s m args below meth c H locs lsA C)
theorem z_if_eq {a : Int32} {off : Int} {tgt : Nat} (hd : decode (xb X) pc = .ok (.ifCond .eq off, 3)) (ht : (pc : Int) + off = (tgt : Int)) (hn : pc + 3 = pc') (h : a = 0 → Zz X cu su tgt ls st M) (h2 : ¬ a = 0 → Zz X cu su pc' ls st M) : Zz X cu su pc ls (.int a :: st) M := by
  subst hn
  intro p e s m args below meth c H locs lsA C
  obtain ⟨⟨hx, hb, hr, hml, hown, hts, hlk, htb, hls⟩, ⟨hK, hSt, hsz⟩, ⟨hP, hD, hS⟩, hl⟩ := id C
  exact lv_if_eq hx hb hd ht (fun q => h q p e s m args below meth c H locs lsA C) (fun q => h2 q p e s m args below meth c H locs lsA C)
theorem z_if_ne {a : Int32} {off : Int} {tgt : Nat} (hd : decode (xb X) pc = .ok (.ifCond .ne off, 3)) (ht : (pc : Int) + off = (tgt : Int)) (hn : pc + 3 = pc') (h : ¬ a = 0 → Zz X cu su tgt ls st M) (h2 : a = 0 → Zz X cu su pc' ls st M) : Zz X cu su pc ls (.int a :: st) M := by
  subst hn
  intro p e s m args below meth c H locs lsA C
  obtain ⟨⟨hx, hb, hr, hml, hown, hts, hlk, htb, hls⟩, ⟨hK, hSt, hsz⟩, ⟨hP, hD, hS⟩, hl⟩ := id C
  exact lv_if_ne hx hb hd ht (fun q => h q p e s m args below meth c H locs lsA C) (fun q => h2 q p e s m args below meth c H locs lsA C)
theorem z_if_lt {a : Int32} {off : Int} {tgt : Nat} (hd : decode (xb X) pc = .ok (.ifCond .lt off, 3)) (ht : (pc : Int) + off = (tgt : Int)) (hn : pc + 3 = pc') (h : a < 0 → Zz X cu su tgt ls st M) (h2 : ¬ a < 0 → Zz X cu su pc' ls st M) : Zz X cu su pc ls (.int a :: st) M := by
  subst hn
  intro p e s m args below meth c H locs lsA C
  obtain ⟨⟨hx, hb, hr, hml, hown, hts, hlk, htb, hls⟩, ⟨hK, hSt, hsz⟩, ⟨hP, hD, hS⟩, hl⟩ := id C
  exact lv_if_lt hx hb hd ht (fun q => h q p e s m args below meth c H locs lsA C) (fun q => h2 q p e s m args below meth c H locs lsA C)
theorem z_if_ge {a : Int32} {off : Int} {tgt : Nat} (hd : decode (xb X) pc = .ok (.ifCond .ge off, 3)) (ht : (pc : Int) + off = (tgt : Int)) (hn : pc + 3 = pc') (h : 0 ≤ a → Zz X cu su tgt ls st M) (h2 : ¬ 0 ≤ a → Zz X cu su pc' ls st M) : Zz X cu su pc ls (.int a :: st) M := by
  subst hn
  intro p e s m args below meth c H locs lsA C
  obtain ⟨⟨hx, hb, hr, hml, hown, hts, hlk, htb, hls⟩, ⟨hK, hSt, hsz⟩, ⟨hP, hD, hS⟩, hl⟩ := id C
  exact lv_if_ge hx hb hd ht (fun q => h q p e s m args below meth c H locs lsA C) (fun q => h2 q p e s m args below meth c H locs lsA C)
theorem z_if_gt {a : Int32} {off : Int} {tgt : Nat} (hd : decode (xb X) pc = .ok (.ifCond .gt off, 3)) (ht : (pc : Int) + off = (tgt : Int)) (hn : pc + 3 = pc') (h : 0 < a → Zz X cu su tgt ls st M) (h2 : ¬ 0 < a → Zz X cu su pc' ls st M) : Zz X cu su pc ls (.int a :: st) M := by
  subst hn
  intro p e s m args below meth c H locs lsA C
  obtain ⟨⟨hx, hb, hr, hml, hown, hts, hlk, htb, hls⟩, ⟨hK, hSt, hsz⟩, ⟨hP, hD, hS⟩, hl⟩ := id C
  exact lv_if_gt hx hb hd ht (fun q => h q p e s m args below meth c H locs lsA C) (fun q => h2 q p e s m args below meth c H locs lsA C)
theorem z_if_le {a : Int32} {off : Int} {tgt : Nat} (hd : decode (xb X) pc = .ok (.ifCond .le off, 3)) (ht : (pc : Int) + off = (tgt : Int)) (hn : pc + 3 = pc') (h : a ≤ 0 → Zz X cu su tgt ls st M) (h2 : ¬ a ≤ 0 → Zz X cu su pc' ls st M) : Zz X cu su pc ls (.int a :: st) M := by
  subst hn
  intro p e s m args below meth c H locs lsA C
  obtain ⟨⟨hx, hb, hr, hml, hown, hts, hlk, htb, hls⟩, ⟨hK, hSt, hsz⟩, ⟨hP, hD, hS⟩, hl⟩ := id C
  exact lv_if_le hx hb hd ht (fun q => h q p e s m args below meth c H locs lsA C) (fun q => h2 q p e s m args below meth c H locs lsA C)
theorem z_goto {off : Int} {tgt : Nat} (hd : decode (xb X) pc = .ok (.goto off, 3)) (ht : (pc : Int) + off = (tgt : Int)) (h : Zz X cu su tgt ls st M) : Zz X cu su pc ls st M := by
  intro p e s m args below meth c H locs lsA C
  obtain ⟨⟨hx, hb, hr, hml, hown, hts, hlk, htb, hls⟩, ⟨hK, hSt, hsz⟩, ⟨hP, hD, hS⟩, hl⟩ := id C
  exact lv_goto hx hb hd ht (h p e s m args below meth c H locs lsA C)
theorem z_tabIn {dflt lo hi : Int} {offs : Array Int} {len : Nat} {x : Int32} {off : Int} {tgt : Nat} (hd : decode (xb X) pc = .ok (.tableswitch dflt lo hi offs, len)) (h1 : ¬ x.toInt < lo) (h2 : ¬ hi < x.toInt) (ho : offs[(x.toInt - lo).toNat]? = some off) (ht : (pc : Int) + off = (tgt : Int)) (h : Zz X cu su tgt ls st M) : Zz X cu su pc ls (.int x :: st) M := by
  intro p e s m args below meth c H locs lsA C
  obtain ⟨⟨hx, hb, hr, hml, hown, hts, hlk, htb, hls⟩, ⟨hK, hSt, hsz⟩, ⟨hP, hD, hS⟩, hl⟩ := id C
  exact lv_tableIn hx hb hd h1 h2 ho ht (h p e s m args below meth c H locs lsA C)
theorem z_tabOut {dflt lo hi : Int} {offs : Array Int} {len : Nat} {x : Int32} {tgt : Nat} (hd : decode (xb X) pc = .ok (.tableswitch dflt lo hi offs, len)) (h1 : x.toInt < lo ∨ hi < x.toInt) (ht : (pc : Int) + dflt = (tgt : Int)) (h : Zz X cu su tgt ls st M) : Zz X cu su pc ls (.int x :: st) M := by
  intro p e s m args below meth c H locs lsA C
  obtain ⟨⟨hx, hb, hr, hml, hown, hts, hlk, htb, hls⟩, ⟨hK, hSt, hsz⟩, ⟨hP, hD, hS⟩, hl⟩ := id C
  exact lv_tableOut hx hb hd h1 ht (h p e s m args below meth c H locs lsA C)
theorem fv_int {E : EnT} {M : Mem} {ci k j : Nat} (h : rfd ci j = none) : fv E M ci k j = .int (M k j) := by unfold fv; rw [h]
theorem fv_ref {E : EnT} {M : Mem} {ci k j r : Nat} (h : rfd ci j = some (0, r)) : fv E M ci k j = .ref (eAd E r) := by unfold fv; rw [h]; rfl
theorem fv_rel {E : EnT} {M : Mem} {ci k j r : Nat} (h : rfd ci j = some (1, r)) : fv E M ci k j = .ref (eAd E (k + r)) := by unfold fv; rw [h]; rfl
theorem knd_120 {k t n : Nat} (hk : knd k = (t, n)) (ht : t ≠ 99) : k < 120 := knd_lt (by rw [hk]; exact ht)
theorem fs_at {E : EnT} {M : Mem} {t k n j : Nat} (h : j < n) : ((List.range n).map (fv E M t k))[j]? = some (fv E M t k j) := by simp [h]
theorem wl_obj {E : EnT} {M : Mem} {k t n : Nat} (hk : knd k = (t, n)) (ht : t < 8) : (wl E M)[k]? = some (eAd E k, .inr (t, (List.range n).map (fv E M t k))) := by rw [wl_at (knd_120 hk (by omega)), ent_obj hk ht]
theorem wl_set_obj {E : EnT} {M : Mem} {k t n j : Nat} {v : Int32} (hk : knd k = (t, n)) (ht : t < 8) (hr : rfd t j = none) : (wl E M).set k (eAd E k, .inr (t, ((List.range n).map (fv E M t k)).set j (.int v))) = wl E (mu M k j v) := wl_set (knd_120 hk (by omega)) (by rw [ent_obj hk ht, fs_set hr])
/-- a field's row: class number, slot; the object is of that class -/
theorem z_getG {ci n k j ix : Nat} {C : String} {T : u_T} {ty : FieldType} {v : Value} (hd : decode (xb X) pc = .ok (.getfield ix, 3)) (hk : knd k = (ci, n)) (hci : ci < 8) (hC : vwCl[ci]? = some (C, T, n)) (hin : ∀ w ∈ u_ws C T n, w ∈ W0) (hj : j < n) (hw : Cond.fieldLink (xo X) ix (T j).1 (T j).2.1 (T j).2.2.1 ∈ W0) (hv : fv X.2.1 M ci k j = trv (eAd X.2.1) v) (hn : pc + 3 = pc') (h : Zz X cu su pc' ls (v :: st) M) : Zz X cu su pc ls (.ref k :: st) M := by
  subst hn
  intro p e s m args below meth c H locs lsA C
  obtain ⟨⟨hx, hb, hr, hml, hown, hts, hlk, htb, hls⟩, ⟨hK, hSt, hsz⟩, ⟨hP, hD, hS⟩, hl⟩ := id C
  exact va_get hx hb hts hin hown hK hP k (wl_obj hk hci) hC j hj (hts _ hw) (fun _ q => q) (by rw [fs_at hj, hv]) hd (h p e s m args below meth c H locs lsA C)
theorem z_putG {ci n k j ix : Nat} {C : String} {T : u_T} {ty0 : Nat → FieldType} {v : Int32} (hd : decode (xb X) pc = .ok (.putfield ix, 3)) (hk : knd k = (ci, n)) (hci : ci < 8) (hC : vwCl[ci]? = some (C, T, n)) (hin : ∀ w ∈ u_ws C T n, w ∈ W0) (hty : ∀ k, k < n → parseFieldDescriptor (T k).2.2.1 = some (ty0 k)) (hnm : ∀ a, a < n → ∀ b, b < n → a ≠ b → (T a).2.1 ≠ (T b).2.1) (hj : j < n) (hw : Cond.fieldLink (xo X) ix (T j).1 (T j).2.1 (T j).2.2.1 ∈ W0) (hfin : (T j).2.2.2 = false) (ht : ty0 j = .int) (hr9 : rfd ci j = none) (hn : pc + 3 = pc') (h : Zz X cu su pc' ls st (mu M k j v)) : Zz X cu su pc ls (.int v :: .ref k :: st) M := by
  subst hn
  intro p e s m args below meth c H locs lsA C9
  obtain ⟨⟨hx, hb, hr, hml, hown, hts, hlk, htb, hls⟩, ⟨hK, hSt, hsz⟩, ⟨hP, hD, hS⟩, hl⟩ := id C9
  refine va_put hx hb hts hin ty0 hty hnm hown hK hP hD hS k (wl_obj hk hci) hC j hj (hts _ hw) (fun _ q => q) hfin (ty := .int) (v := .int v) (by rw [hty j hj, ht]) rfl rfl (by simp [hj]) hd (fun H1 locs1 hP1 hD1 hS1 => ?_)
  rw [wl_set_obj hk hci hr9] at hP1 hD1
  exact h p e s m args below meth c H1 locs1 lsA ⟨C9.1, C9.2.1, ⟨hP1, hD1, hS1⟩, hl⟩
theorem z_gi0 {k j ix : Nat} (hd : decode (xb X) pc = .ok (.getfield ix, 3)) (j9 : j < 3) (hw : Cond.fieldLink (xo X) ix (TX0 j).1 (TX0 j).2.1 (TX0 j).2.2.1 ∈ W0) (hk : knd k = (0, 3)) (hr : rfd 0 j = none) (hn : pc + 3 = pc') (h : Zz X cu su pc' ls (.int (M k j) :: st) M) : Zz X cu su pc ls (.ref k :: st) M := z_getG (C := RX0) (T := TX0) (ty := .int) hd hk (by decide) rfl inwX0 j9 hw (fv_int hr) hn h
theorem z_gr0 {k j ix r : Nat} (hd : decode (xb X) pc = .ok (.getfield ix, 3)) (j9 : j < 3) (hw : Cond.fieldLink (xo X) ix (TX0 j).1 (TX0 j).2.1 (TX0 j).2.2.1 ∈ W0) (hk : knd k = (0, 3)) (hr : rfd 0 j = some (0, r)) (hn : pc + 3 = pc') (h : Zz X cu su pc' ls (.ref r :: st) M) : Zz X cu su pc ls (.ref k :: st) M := z_getG (C := RX0) (T := TX0) (ty := .int) hd hk (by decide) rfl inwX0 j9 hw (fv_ref hr) hn h
theorem z_pi0 {k j ix : Nat} {v : Int32} (hd : decode (xb X) pc = .ok (.putfield ix, 3)) (j9 : j < 3) (hw : Cond.fieldLink (xo X) ix (TX0 j).1 (TX0 j).2.1 (TX0 j).2.2.1 ∈ W0) (hfin : (TX0 j).2.2.2 = false) (ht : tyX0 j = .int) (hk : knd k = (0, 3)) (hr : rfd 0 j = none) (hn : pc + 3 = pc') (h : Zz X cu su pc' ls st (mu M k j v)) : Zz X cu su pc ls (.int v :: .ref k :: st) M := z_putG (C := RX0) (T := TX0) (ty0 := tyX0) hd hk (by decide) rfl inwX0 tyX0_ok nmX0 j9 hw hfin ht hr hn h
theorem z_gi1 {k j ix : Nat} (hd : decode (xb X) pc = .ok (.getfield ix, 3)) (j9 : j < 6) (hw : Cond.fieldLink (xo X) ix (TX1 j).1 (TX1 j).2.1 (TX1 j).2.2.1 ∈ W0) (hk : knd k = (1, 6)) (hr : rfd 1 j = none) (hn : pc + 3 = pc') (h : Zz X cu su pc' ls (.int (M k j) :: st) M) : Zz X cu su pc ls (.ref k :: st) M := z_getG (C := RX1) (T := TX1) (ty := .int) hd hk (by decide) rfl inwX1 j9 hw (fv_int hr) hn h
theorem z_gr1 {k j ix r : Nat} (hd : decode (xb X) pc = .ok (.getfield ix, 3)) (j9 : j < 6) (hw : Cond.fieldLink (xo X) ix (TX1 j).1 (TX1 j).2.1 (TX1 j).2.2.1 ∈ W0) (hk : knd k = (1, 6)) (hr : rfd 1 j = some (0, r)) (hn : pc + 3 = pc') (h : Zz X cu su pc' ls (.ref r :: st) M) : Zz X cu su pc ls (.ref k :: st) M := z_getG (C := RX1) (T := TX1) (ty := .int) hd hk (by decide) rfl inwX1 j9 hw (fv_ref hr) hn h
theorem z_pi1 {k j ix : Nat} {v : Int32} (hd : decode (xb X) pc = .ok (.putfield ix, 3)) (j9 : j < 6) (hw : Cond.fieldLink (xo X) ix (TX1 j).1 (TX1 j).2.1 (TX1 j).2.2.1 ∈ W0) (hfin : (TX1 j).2.2.2 = false) (ht : tyX1 j = .int) (hk : knd k = (1, 6)) (hr : rfd 1 j = none) (hn : pc + 3 = pc') (h : Zz X cu su pc' ls st (mu M k j v)) : Zz X cu su pc ls (.int v :: .ref k :: st) M := z_putG (C := RX1) (T := TX1) (ty0 := tyX1) hd hk (by decide) rfl inwX1 tyX1_ok nmX1 j9 hw hfin ht hr hn h
theorem z_gi2 {k j ix : Nat} (hd : decode (xb X) pc = .ok (.getfield ix, 3)) (j9 : j < 11) (hw : Cond.fieldLink (xo X) ix (TX2 j).1 (TX2 j).2.1 (TX2 j).2.2.1 ∈ W0) (hk : knd k = (2, 11)) (hr : rfd 2 j = none) (hn : pc + 3 = pc') (h : Zz X cu su pc' ls (.int (M k j) :: st) M) : Zz X cu su pc ls (.ref k :: st) M := z_getG (C := RX2) (T := TX2) (ty := .int) hd hk (by decide) rfl inwX2 j9 hw (fv_int hr) hn h
theorem z_gr2 {k j ix r : Nat} (hd : decode (xb X) pc = .ok (.getfield ix, 3)) (j9 : j < 11) (hw : Cond.fieldLink (xo X) ix (TX2 j).1 (TX2 j).2.1 (TX2 j).2.2.1 ∈ W0) (hk : knd k = (2, 11)) (hr : rfd 2 j = some (0, r)) (hn : pc + 3 = pc') (h : Zz X cu su pc' ls (.ref r :: st) M) : Zz X cu su pc ls (.ref k :: st) M := z_getG (C := RX2) (T := TX2) (ty := .int) hd hk (by decide) rfl inwX2 j9 hw (fv_ref hr) hn h
theorem z_pi2 {k j ix : Nat} {v : Int32} (hd : decode (xb X) pc = .ok (.putfield ix, 3)) (j9 : j < 11) (hw : Cond.fieldLink (xo X) ix (TX2 j).1 (TX2 j).2.1 (TX2 j).2.2.1 ∈ W0) (hfin : (TX2 j).2.2.2 = false) (ht : tyX2 j = .int) (hk : knd k = (2, 11)) (hr : rfd 2 j = none) (hn : pc + 3 = pc') (h : Zz X cu su pc' ls st (mu M k j v)) : Zz X cu su pc ls (.int v :: .ref k :: st) M := z_putG (C := RX2) (T := TX2) (ty0 := tyX2) hd hk (by decide) rfl inwX2 tyX2_ok nmX2 j9 hw hfin ht hr hn h
theorem z_gi3 {k j ix : Nat} (hd : decode (xb X) pc = .ok (.getfield ix, 3)) (j9 : j < 10) (hw : Cond.fieldLink (xo X) ix (TX3 j).1 (TX3 j).2.1 (TX3 j).2.2.1 ∈ W0) (hk : knd k = (3, 10)) (hr : rfd 3 j = none) (hn : pc + 3 = pc') (h : Zz X cu su pc' ls (.int (M k j) :: st) M) : Zz X cu su pc ls (.ref k :: st) M := z_getG (C := RX3) (T := TX3) (ty := .int) hd hk (by decide) rfl inwX3 j9 hw (fv_int hr) hn h
theorem z_gr3 {k j ix r : Nat} (hd : decode (xb X) pc = .ok (.getfield ix, 3)) (j9 : j < 10) (hw : Cond.fieldLink (xo X) ix (TX3 j).1 (TX3 j).2.1 (TX3 j).2.2.1 ∈ W0) (hk : knd k = (3, 10)) (hr : rfd 3 j = some (0, r)) (hn : pc + 3 = pc') (h : Zz X cu su pc' ls (.ref r :: st) M) : Zz X cu su pc ls (.ref k :: st) M := z_getG (C := RX3) (T := TX3) (ty := .int) hd hk (by decide) rfl inwX3 j9 hw (fv_ref hr) hn h
theorem z_pi3 {k j ix : Nat} {v : Int32} (hd : decode (xb X) pc = .ok (.putfield ix, 3)) (j9 : j < 10) (hw : Cond.fieldLink (xo X) ix (TX3 j).1 (TX3 j).2.1 (TX3 j).2.2.1 ∈ W0) (hfin : (TX3 j).2.2.2 = false) (ht : tyX3 j = .int) (hk : knd k = (3, 10)) (hr : rfd 3 j = none) (hn : pc + 3 = pc') (h : Zz X cu su pc' ls st (mu M k j v)) : Zz X cu su pc ls (.int v :: .ref k :: st) M := z_putG (C := RX3) (T := TX3) (ty0 := tyX3) hd hk (by decide) rfl inwX3 tyX3_ok nmX3 j9 hw hfin ht hr hn h
theorem z_gi4 {k j ix : Nat} (hd : decode (xb X) pc = .ok (.getfield ix, 3)) (j9 : j < 7) (hw : Cond.fieldLink (xo X) ix (TX4 j).1 (TX4 j).2.1 (TX4 j).2.2.1 ∈ W0) (hk : knd k = (4, 7)) (hr : rfd 4 j = none) (hn : pc + 3 = pc') (h : Zz X cu su pc' ls (.int (M k j) :: st) M) : Zz X cu su pc ls (.ref k :: st) M := z_getG (C := RX4) (T := TX4) (ty := .int) hd hk (by decide) rfl inwX4 j9 hw (fv_int hr) hn h
theorem z_gr4 {k j ix r : Nat} (hd : decode (xb X) pc = .ok (.getfield ix, 3)) (j9 : j < 7) (hw : Cond.fieldLink (xo X) ix (TX4 j).1 (TX4 j).2.1 (TX4 j).2.2.1 ∈ W0) (hk : knd k = (4, 7)) (hr : rfd 4 j = some (0, r)) (hn : pc + 3 = pc') (h : Zz X cu su pc' ls (.ref r :: st) M) : Zz X cu su pc ls (.ref k :: st) M := z_getG (C := RX4) (T := TX4) (ty := .int) hd hk (by decide) rfl inwX4 j9 hw (fv_ref hr) hn h
theorem z_pi4 {k j ix : Nat} {v : Int32} (hd : decode (xb X) pc = .ok (.putfield ix, 3)) (j9 : j < 7) (hw : Cond.fieldLink (xo X) ix (TX4 j).1 (TX4 j).2.1 (TX4 j).2.2.1 ∈ W0) (hfin : (TX4 j).2.2.2 = false) (ht : tyX4 j = .int) (hk : knd k = (4, 7)) (hr : rfd 4 j = none) (hn : pc + 3 = pc') (h : Zz X cu su pc' ls st (mu M k j v)) : Zz X cu su pc ls (.int v :: .ref k :: st) M := z_putG (C := RX4) (T := TX4) (ty0 := tyX4) hd hk (by decide) rfl inwX4 tyX4_ok nmX4 j9 hw hfin ht hr hn h
theorem z_gi5 {k j ix : Nat} (hd : decode (xb X) pc = .ok (.getfield ix, 3)) (j9 : j < 5) (hw : Cond.fieldLink (xo X) ix (TX5 j).1 (TX5 j).2.1 (TX5 j).2.2.1 ∈ W0) (hk : knd k = (5, 5)) (hr : rfd 5 j = none) (hn : pc + 3 = pc') (h : Zz X cu su pc' ls (.int (M k j) :: st) M) : Zz X cu su pc ls (.ref k :: st) M := z_getG (C := RX5) (T := TX5) (ty := .int) hd hk (by decide) rfl inwX5 j9 hw (fv_int hr) hn h
theorem z_gr5 {k j ix r : Nat} (hd : decode (xb X) pc = .ok (.getfield ix, 3)) (j9 : j < 5) (hw : Cond.fieldLink (xo X) ix (TX5 j).1 (TX5 j).2.1 (TX5 j).2.2.1 ∈ W0) (hk : knd k = (5, 5)) (hr : rfd 5 j = some (0, r)) (hn : pc + 3 = pc') (h : Zz X cu su pc' ls (.ref r :: st) M) : Zz X cu su pc ls (.ref k :: st) M := z_getG (C := RX5) (T := TX5) (ty := .int) hd hk (by decide) rfl inwX5 j9 hw (fv_ref hr) hn h
theorem z_pi5 {k j ix : Nat} {v : Int32} (hd : decode (xb X) pc = .ok (.putfield ix, 3)) (j9 : j < 5) (hw : Cond.fieldLink (xo X) ix (TX5 j).1 (TX5 j).2.1 (TX5 j).2.2.1 ∈ W0) (hfin : (TX5 j).2.2.2 = false) (ht : tyX5 j = .int) (hk : knd k = (5, 5)) (hr : rfd 5 j = none) (hn : pc + 3 = pc') (h : Zz X cu su pc' ls st (mu M k j v)) : Zz X cu su pc ls (.int v :: .ref k :: st) M := z_putG (C := RX5) (T := TX5) (ty0 := tyX5) hd hk (by decide) rfl inwX5 tyX5_ok nmX5 j9 hw hfin ht hr hn h
theorem z_gi6 {k j ix : Nat} (hd : decode (xb X) pc = .ok (.getfield ix, 3)) (j9 : j < 7) (hw : Cond.fieldLink (xo X) ix (TX6 j).1 (TX6 j).2.1 (TX6 j).2.2.1 ∈ W0) (hk : knd k = (6, 7)) (hr : rfd 6 j = none) (hn : pc + 3 = pc') (h : Zz X cu su pc' ls (.int (M k j) :: st) M) : Zz X cu su pc ls (.ref k :: st) M := z_getG (C := RX6) (T := TX6) (ty := .int) hd hk (by decide) rfl inwX6 j9 hw (fv_int hr) hn h
theorem z_gr6 {k j ix r : Nat} (hd : decode (xb X) pc = .ok (.getfield ix, 3)) (j9 : j < 7) (hw : Cond.fieldLink (xo X) ix (TX6 j).1 (TX6 j).2.1 (TX6 j).2.2.1 ∈ W0) (hk : knd k = (6, 7)) (hr : rfd 6 j = some (0, r)) (hn : pc + 3 = pc') (h : Zz X cu su pc' ls (.ref r :: st) M) : Zz X cu su pc ls (.ref k :: st) M := z_getG (C := RX6) (T := TX6) (ty := .int) hd hk (by decide) rfl inwX6 j9 hw (fv_ref hr) hn h
theorem z_pi6 {k j ix : Nat} {v : Int32} (hd : decode (xb X) pc = .ok (.putfield ix, 3)) (j9 : j < 7) (hw : Cond.fieldLink (xo X) ix (TX6 j).1 (TX6 j).2.1 (TX6 j).2.2.1 ∈ W0) (hfin : (TX6 j).2.2.2 = false) (ht : tyX6 j = .int) (hk : knd k = (6, 7)) (hr : rfd 6 j = none) (hn : pc + 3 = pc') (h : Zz X cu su pc' ls st (mu M k j v)) : Zz X cu su pc ls (.int v :: .ref k :: st) M := z_putG (C := RX6) (T := TX6) (ty0 := tyX6) hd hk (by decide) rfl inwX6 tyX6_ok nmX6 j9 hw hfin ht hr hn h
theorem z_gi7 {k j ix : Nat} (hd : decode (xb X) pc = .ok (.getfield ix, 3)) (j9 : j < 32) (hw : Cond.fieldLink (xo X) ix (TX7 j).1 (TX7 j).2.1 (TX7 j).2.2.1 ∈ W0) (hk : knd k = (7, 32)) (hr : rfd 7 j = none) (hn : pc + 3 = pc') (h : Zz X cu su pc' ls (.int (M k j) :: st) M) : Zz X cu su pc ls (.ref k :: st) M := z_getG (C := RX7) (T := TX7) (ty := .int) hd hk (by decide) rfl inwX7 j9 hw (fv_int hr) hn h
theorem z_gr7 {k j ix r : Nat} (hd : decode (xb X) pc = .ok (.getfield ix, 3)) (j9 : j < 32) (hw : Cond.fieldLink (xo X) ix (TX7 j).1 (TX7 j).2.1 (TX7 j).2.2.1 ∈ W0) (hk : knd k = (7, 32)) (hr : rfd 7 j = some (0, r)) (hn : pc + 3 = pc') (h : Zz X cu su pc' ls (.ref r :: st) M) : Zz X cu su pc ls (.ref k :: st) M := z_getG (C := RX7) (T := TX7) (ty := .int) hd hk (by decide) rfl inwX7 j9 hw (fv_ref hr) hn h
theorem z_pi7 {k j ix : Nat} {v : Int32} (hd : decode (xb X) pc = .ok (.putfield ix, 3)) (j9 : j < 32) (hw : Cond.fieldLink (xo X) ix (TX7 j).1 (TX7 j).2.1 (TX7 j).2.2.1 ∈ W0) (hfin : (TX7 j).2.2.2 = false) (ht : tyX7 j = .int) (hk : knd k = (7, 32)) (hr : rfd 7 j = none) (hn : pc + 3 = pc') (h : Zz X cu su pc' ls st (mu M k j v)) : Zz X cu su pc ls (.int v :: .ref k :: st) M := z_putG (C := RX7) (T := TX7) (ty0 := tyX7) hd hk (by decide) rfl inwX7 tyX7_ok nmX7 j9 hw hfin ht hr hn h
theorem z_rowH {r ix : Nat} (hd : decode (xb X) pc = .ok (.getfield ix, 3)) (hw : Cond.fieldLink (xo X) ix "BridgeNight$Row" "hours" "[I" ∈ W0) (hk : r < 22) (hn : pc + 3 = pc') (h : Zz X cu su pc' ls (.ref (r + 55) :: st) M) : Zz X cu su pc ls (.ref (r + 33) :: st) M := z_getG (C := RX0) (T := TX0) (ty := .int) (j := 0) hd (knd_r hk) (by decide) rfl inwX0 (by decide) hw (fv_rel (k := r + 33) (r := 22) rfl) hn h
theorem z_rowS {r ix : Nat} (hd : decode (xb X) pc = .ok (.getfield ix, 3)) (hw : Cond.fieldLink (xo X) ix "BridgeNight$Row" "starts" "[I" ∈ W0) (hk : r < 22) (hn : pc + 3 = pc') (h : Zz X cu su pc' ls (.ref (r + 77) :: st) M) : Zz X cu su pc ls (.ref (r + 33) :: st) M := z_getG (C := RX0) (T := TX0) (ty := .int) (j := 1) hd (knd_r hk) (by decide) rfl inwX0 (by decide) hw (fv_rel (k := r + 33) (r := 44) rfl) hn h
theorem z_iald {k j n : Nat} {i : Int32} (hd : decode (xb X) pc = .ok (.iaload, 1)) (hk : knd k = (10, n)) (hi : i = nI j) (hj : j < n) (hm : n < 2 ^ 31) (hn : pc + 1 = pc') (h : Zz X cu su pc' ls (.int (M k j) :: st) M) : Zz X cu su pc ls (.int i :: .ref k :: st) M := by
  subst hi
  subst hn
  intro p e s m args below meth c H locs lsA C
  obtain ⟨⟨hx, hb, hr, hml, hown, hts, hlk, htb, hls⟩, ⟨hK, hSt, hsz⟩, ⟨hP, hD, hS⟩, hl⟩ := id C
  refine va_iald hx hb hK hP k 0 ((wl_at (knd_120 hk (by decide))).trans (by rw [ent_10 hk])) rfl (vp_in_nI hj hm) hd ?_
  rw [nI_clamp (Nat.lt_trans hj hm)]
  exact h p e s m args below meth c H locs lsA C
theorem z_bald {k j n : Nat} {i : Int32} (hd : decode (xb X) pc = .ok (.baload, 1)) (hk : knd k = (11, n)) (hi : i = nI j) (hj : j < n) (hm : n < 2 ^ 31) (hn : pc + 1 = pc') (h : Zz X cu su pc' ls (.int (M k j) :: st) M) : Zz X cu su pc ls (.int i :: .ref k :: st) M := by
  subst hi
  subst hn
  intro p e s m args below meth c H locs lsA C
  obtain ⟨⟨hx, hb, hr, hml, hown, hts, hlk, htb, hls⟩, ⟨hK, hSt, hsz⟩, ⟨hP, hD, hS⟩, hl⟩ := id C
  refine va_bald hx hb hK hP k 1 ((wl_at (knd_120 hk (by decide))).trans (by rw [ent_11 hk])) rfl (vp_in_nI hj hm) hd ?_
  rw [nI_clamp (Nat.lt_trans hj hm)]
  exact h p e s m args below meth c H locs lsA C
theorem z_zald {k j n : Nat} {i : Int32} (hd : decode (xb X) pc = .ok (.baload, 1)) (hk : knd k = (12, n)) (hi : i = nI j) (hj : j < n) (hm : n < 2 ^ 31) (hn : pc + 1 = pc') (h : Zz X cu su pc' ls (.int (M k j) :: st) M) : Zz X cu su pc ls (.int i :: .ref k :: st) M := by
  subst hi
  subst hn
  intro p e s m args below meth c H locs lsA C
  obtain ⟨⟨hx, hb, hr, hml, hown, hts, hlk, htb, hls⟩, ⟨hK, hSt, hsz⟩, ⟨hP, hD, hS⟩, hl⟩ := id C
  refine va_zald hx hb hK hP k 2 ((wl_at (knd_120 hk (by decide))).trans (by rw [ent_12 hk])) rfl (vp_in_nI hj hm) hd ?_
  rw [nI_clamp (Nat.lt_trans hj hm)]
  exact h p e s m args below meth c H locs lsA C
theorem z_aldW {k j n : Nat} {i : Int32} (hd : decode (xb X) pc = .ok (.aaload, 1)) (hk : knd k = (13, n)) (hi : i = nI j) (hj : j < n) (hm : n < 2 ^ 31) (hn : pc + 1 = pc') (h : Zz X cu su pc' ls (.ref (j + 17) :: st) M) : Zz X cu su pc ls (.int i :: .ref k :: st) M := by
  subst hi
  subst hn
  intro p e s m args below meth c H locs lsA C
  obtain ⟨⟨hx, hb, hr, hml, hown, hts, hlk, htb, hls⟩, ⟨hK, hSt, hsz⟩, ⟨hP, hD, hS⟩, hl⟩ := id C
  refine va_aldq hx hb hK hP k 3 ((wl_at (knd_120 hk (by decide))).trans (by rw [ent_13 hk])) rfl (vp_in_nI hj hm) hd ?_
  rw [nI_clamp (Nat.lt_trans hj hm)]
  exact h p e s m args below meth c H locs lsA C
theorem z_aldR {k j n : Nat} {i : Int32} (hd : decode (xb X) pc = .ok (.aaload, 1)) (hk : knd k = (14, n)) (hi : i = nI j) (hj : j < n) (hm : n < 2 ^ 31) (hn : pc + 1 = pc') (h : Zz X cu su pc' ls (.ref (j + 33) :: st) M) : Zz X cu su pc ls (.int i :: .ref k :: st) M := by
  subst hi
  subst hn
  intro p e s m args below meth c H locs lsA C
  obtain ⟨⟨hx, hb, hr, hml, hown, hts, hlk, htb, hls⟩, ⟨hK, hSt, hsz⟩, ⟨hP, hD, hS⟩, hl⟩ := id C
  refine va_aldq hx hb hK hP k 4 ((wl_at (knd_120 hk (by decide))).trans (by rw [ent_14 hk])) rfl (vp_in_nI hj hm) hd ?_
  rw [nI_clamp (Nat.lt_trans hj hm)]
  exact h p e s m args below meth c H locs lsA C
theorem z_iast {k j n : Nat} {i v : Int32} (hd : decode (xb X) pc = .ok (.iastore, 1)) (hk : knd k = (10, n)) (hi : i = nI j) (hj : j < n) (hm : n < 2 ^ 31) (hn : pc + 1 = pc') (h : Zz X cu su pc' ls st (mu M k j v)) : Zz X cu su pc ls (.int v :: .int i :: .ref k :: st) M := by
  subst hi
  subst hn
  intro p e s m args below meth c H locs lsA C
  obtain ⟨⟨hx, hb, hr, hml, hown, hts, hlk, htb, hls⟩, ⟨hK, hSt, hsz⟩, ⟨hP, hD, hS⟩, hl⟩ := id C
  refine va_iast hx hb hK hP hD hS k 0 ((wl_at (knd_120 hk (by decide))).trans (by rw [ent_10 hk])) rfl (vp_in_nI hj hm) hd (fun H1 locs1 hP1 hD1 hS1 => ?_)
  rw [nI_clamp (Nat.lt_trans hj hm), wl_set (v := v) (i := j) (knd_120 hk (by decide)) (by rw [ent_10 hk, mu_k])] at hP1 hD1
  exact h p e s m args below meth c H1 locs1 lsA ⟨C.1, C.2.1, ⟨hP1, hD1, hS1⟩, hl⟩
theorem z_bast {k j n : Nat} {i v : Int32} (hd : decode (xb X) pc = .ok (.bastore, 1)) (hk : knd k = (11, n)) (hi : i = nI j) (hj : j < n) (hm : n < 2 ^ 31) (hn : pc + 1 = pc') (h : Zz X cu su pc' ls st (mu M k j (vp_nar .byte v))) : Zz X cu su pc ls (.int v :: .int i :: .ref k :: st) M := by
  subst hi
  subst hn
  intro p e s m args below meth c H locs lsA C
  obtain ⟨⟨hx, hb, hr, hml, hown, hts, hlk, htb, hls⟩, ⟨hK, hSt, hsz⟩, ⟨hP, hD, hS⟩, hl⟩ := id C
  refine va_bast hx hb hK hP hD hS k 1 ((wl_at (knd_120 hk (by decide))).trans (by rw [ent_11 hk])) rfl (vp_in_nI hj hm) hd (fun H1 locs1 hP1 hD1 hS1 => ?_)
  rw [nI_clamp (Nat.lt_trans hj hm), wl_set (v := (vp_nar .byte v)) (i := j) (knd_120 hk (by decide)) (by rw [ent_11 hk, mu_k])] at hP1 hD1
  exact h p e s m args below meth c H1 locs1 lsA ⟨C.1, C.2.1, ⟨hP1, hD1, hS1⟩, hl⟩
theorem z_zast {k j n : Nat} {i v : Int32} (hd : decode (xb X) pc = .ok (.bastore, 1)) (hk : knd k = (12, n)) (hi : i = nI j) (hj : j < n) (hm : n < 2 ^ 31) (hn : pc + 1 = pc') (h : Zz X cu su pc' ls st (mu M k j (vp_nar .boolean v))) : Zz X cu su pc ls (.int v :: .int i :: .ref k :: st) M := by
  subst hi
  subst hn
  intro p e s m args below meth c H locs lsA C
  obtain ⟨⟨hx, hb, hr, hml, hown, hts, hlk, htb, hls⟩, ⟨hK, hSt, hsz⟩, ⟨hP, hD, hS⟩, hl⟩ := id C
  refine va_zast hx hb hK hP hD hS k 2 ((wl_at (knd_120 hk (by decide))).trans (by rw [ent_12 hk])) rfl (vp_in_nI hj hm) hd (fun H1 locs1 hP1 hD1 hS1 => ?_)
  rw [nI_clamp (Nat.lt_trans hj hm), wl_set (v := (vp_nar .boolean v)) (i := j) (knd_120 hk (by decide)) (by rw [ent_12 hk, mu_k])] at hP1 hD1
  exact h p e s m args below meth c H1 locs1 lsA ⟨C.1, C.2.1, ⟨hP1, hD1, hS1⟩, hl⟩
theorem z_alen {k n : Nat} (hd : decode (xb X) pc = .ok (.arraylength, 1)) (hk : knd k = (10, n)) (hn : pc + 1 = pc') (h : Zz X cu su pc' ls (.int (nI n) :: st) M) : Zz X cu su pc ls (.ref k :: st) M := by
  subst hn
  intro p e s m args below meth c H locs lsA C
  obtain ⟨⟨hx, hb, hr, hml, hown, hts, hlk, htb, hls⟩, ⟨hK, hSt, hsz⟩, ⟨hP, hD, hS⟩, hl⟩ := id C
  exact va_alen (x := (n, .inl (M k))) hx hb hK hP k 0 ((wl_at (knd_120 hk (by decide))).trans (by rw [ent_10 hk])) rfl rfl hd (h p e s m args below meth c H locs lsA C)
theorem z_tp {a b : Int32} (hab : a = b) (h : Zz X cu su pc ls (.int b :: st) M) : Zz X cu su pc ls (.int a :: st) M := by rw [hab]; exact h
theorem z_mem {N : Mem} (hab : M = N) (h : Zz X cu su pc ls st N) : Zz X cu su pc ls st M := by rw [hab]; exact h
theorem z_ls {ls2 : List (Option Value)} (hab : ls = ls2) (h : Zz X cu su pc ls2 st M) : Zz X cu su pc ls st M := by rw [hab]; exact h
end ZR
