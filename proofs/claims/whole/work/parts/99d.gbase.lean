/-! THE G LAYER: the world while the constructors run. The i-th cell that is made lies at eS E + i, and is named i here. -/
abbrev Gv : Type := Option (Nat ⊕ Int)
abbrev GM : Type := Nat × (Nat → Nat → Gv)
def gad (E : EnT) (i : Nat) : Nat := if i < 1000 then eS E + i else eAd E i
theorem gad_lt {E : EnT} {i : Nat} (h : i < 1000) : gad E i = eS E + i := if_pos h
def go1 : List Nat := [0, 1, 6, 7, 2, 8, 9, 10, 11]
def go2 : List Nat := [3, 12, 13, 4, 14, 15, 16, 5]
/-- the cell that is made as the i-th -/
def go (i : Nat) : Nat := if i < 9 then go1.getD i 0 else if i < 25 then (i - 9) + 17 else if i < 91 then (if (i - 25) % 3 = 0 then (i - 25) / 3 + 33 else if (i - 25) % 3 = 1 then (i - 25) / 3 + 55 else (i - 25) / 3 + 77) else if i < 99 then go2.getD (i - 91) 0 else i
def gk (i : Nat) : Nat × Nat := knd (go i)
theorem gk_w {i : Nat} (h : i < 16) : gk (9 + i) = (4, 7) := by
  have : go (9 + i) = i + 17 := by unfold go; rw [if_neg (by omega), if_pos (by omega)]; omega
  unfold gk; rw [this]; exact knd_w h
theorem gk_r {i : Nat} (h : i < 22) : gk (25 + 3 * i) = (0, 3) := by
  have : go (25 + 3 * i) = i + 33 := by unfold go; rw [if_neg (by omega), if_neg (by omega), if_pos (by omega), if_pos (by omega)]; omega
  unfold gk; rw [this]; exact knd_r h
theorem gk_h {i : Nat} (h : i < 22) : gk (25 + 3 * i + 1) = (10, 16) := by
  have : go (25 + 3 * i + 1) = i + 55 := by unfold go; rw [if_neg (by omega), if_neg (by omega), if_pos (by omega), if_neg (by omega), if_pos (by omega)]; omega
  unfold gk; rw [this]; exact knd_h h
theorem gk_s {i : Nat} (h : i < 22) : gk (25 + 3 * i + 1 + 1) = (10, 16) := by
  have : go (25 + 3 * i + 1 + 1) = i + 77 := by unfold go; rw [if_neg (by omega), if_neg (by omega), if_pos (by omega), if_neg (by omega), if_neg (by omega)]; omega
  unfold gk; rw [this]; exact knd_s h
def gvv (E : EnT) : Gv → Value
  | none => .null
  | some (.inl r) => .ref (gad E r)
  | some (.inr z) => .int (Int32.ofInt z)
def gop (E : EnT) : Gv → Option Nat
  | some (.inl r) => some (gad E r)
  | _ => none
/-- a new cell's contents -/
def V0 (i j : Nat) : Gv := if (gk i).1 < 8 then (match rfd (gk i).1 j with | some _ => none | none => some (.inr 0)) else none
def gentT (E : EnT) (V : Nat → Nat → Gv) (i t n : Nat) : va_E :=
  if t < 8 then .inr (t, (List.range n).map (fun j => gvv E (V i j)))
  else if t = 10 then .inl (eC E 0, n, .inl (fun _ => 0))
  else if t = 11 then .inl (eC E 1, n, .inl (fun _ => 0))
  else if t = 12 then .inl (eC E 2, n, .inl (fun _ => 0))
  else if t = 13 then .inl (eC E 3, n, .inr (.inr (.inr (.inr (fun j => gop E (V i j))))))
  else if t = 14 then .inl (eC E 4, n, .inr (.inr (.inr (.inr (fun j => gop E (V i j))))))
  else .inl (eC E 5, n, .inr (.inl (fun _ => 0)))
def gent (E : EnT) (V : Nat → Nat → Gv) (i : Nat) : va_E := gentT E V i (gk i).1 (gk i).2
def gw (E : EnT) (M : GM) : va_W := (List.range M.1).map (fun i => (eS E + i, gent E M.2 i))
def vu (V : Nat → Nat → Gv) (k j : Nat) (v : Gv) : Nat → Nat → Gv := fun a => if a = k then (fun b => if b = j then v else V k b) else V a
theorem vu_k {V : Nat → Nat → Gv} {k j : Nat} {v : Gv} : vu V k j v k = fun b => if b = j then v else V k b := if_pos rfl
theorem vu_o {V : Nat → Nat → Gv} {k j a : Nat} {v : Gv} (h : a ≠ k) : vu V k j v a = V a := if_neg h
theorem gent_t {E : EnT} {V : Nat → Nat → Gv} {i t n : Nat} (h : gk i = (t, n)) : gent E V i = gentT E V i t n := by unfold gent; rw [h]
theorem gent_obj {E : EnT} {V : Nat → Nat → Gv} {i t n : Nat} (h : gk i = (t, n)) (ht : t < 8) : gent E V i = .inr (t, (List.range n).map (fun j => gvv E (V i j))) := by rw [gent_t h]; exact if_pos ht
theorem gent_o {E : EnT} {V : Nat → Nat → Gv} {k j a : Nat} {v : Gv} (h : a ≠ k) : gent E (vu V k j v) a = gent E V a := by
  unfold gent gentT
  rw [vu_o h]
theorem gw_at {E : EnT} {M : GM} {i : Nat} (h : i < M.1) : (gw E M)[i]? = some (eS E + i, gent E M.2 i) := by simp [gw, h]
theorem gw_len (E : EnT) (M : GM) : (gw E M).length = M.1 := by simp [gw]
theorem gw_push (E : EnT) (M : GM) : gw E (M.1 + 1, M.2) = gw E M ++ [(eS E + M.1, gent E M.2 M.1)] := by
  unfold gw
  simp [List.range_succ]
theorem gw_D (E : EnT) (M : GM) : va_D (eA E) (gw E M) := by
  have key : ∀ (i : Nat) (x : Nat × va_E), (gw E M)[i]? = some x → x.1 = eS E + i := fun i x h => by
    have hi : i < M.1 := by have := (List.getElem?_eq_some_iff.mp h).1; rwa [gw_len] at this
    rw [gw_at hi] at h
    rw [← Option.some.inj h]
  refine ⟨fun i j x y hx hy hxy => ?_, fun k q hk => ?_⟩
  · rw [key i x hx, key j y hy] at hxy; omega
  · show eS E ≤ q.1
    rw [key k q hk]; omega
theorem gw_set {E : EnT} {M : GM} {k j : Nat} {g : Gv} {x : va_E} (h : k < M.1) (hx : x = gent E (vu M.2 k j g) k) : (gw E M).set k (eS E + k, x) = gw E (M.1, vu M.2 k j g) := by
  apply List.ext_getElem?
  intro a
  by_cases ha : a < M.1
  · by_cases hk : a = k
    · subst hk
      rw [List.getElem?_set_self (by rw [gw_len]; exact ha), gw_at (M := (M.1, vu M.2 a j g)) ha, hx]
    · rw [List.getElem?_set_ne (Ne.symm hk), gw_at ha, gw_at (M := (M.1, vu M.2 k j g)) ha]
      show _ = some (eS E + a, gent E (vu M.2 k j g) a)
      rw [gent_o hk]
  · rw [List.getElem?_eq_none (by rw [List.length_set, gw_len]; omega), List.getElem?_eq_none (by rw [gw_len]; exact Nat.not_lt.mp ha)]
theorem rg_set {n j : Nat} {v : Value} {f : Nat → Value} : ((List.range n).map f).set j v = (List.range n).map (fun b => if b = j then v else f b) := by
  apply List.ext_getElem?
  intro a
  by_cases ha : a < n
  · by_cases hj : a = j
    · subst hj
      rw [List.getElem?_set_self (by simp [ha])]
      simp [ha]
    · rw [List.getElem?_set_ne (Ne.symm hj)]
      simp [ha, hj]
  · rw [List.getElem?_eq_none (by simp; omega), List.getElem?_eq_none (by simp; omega)]
theorem gw_set_obj {E : EnT} {M : GM} {k t n j : Nat} {g : Gv} (hk : gk k = (t, n)) (ht : t < 8) (h : k < M.1) : (gw E M).set k (eS E + k, .inr (t, ((List.range n).map (fun j => gvv E (M.2 k j))).set j (gvv E g))) = gw E (M.1, vu M.2 k j g) := by
  refine gw_set h ?_
  rw [gent_obj hk ht, rg_set, vu_k]
  congr 3
  funext b
  by_cases hb : b = j <;> simp [hb]
def NLl : List (String × Nat × MethodName) := [(RX6, 9, yX3_init), (RX3, 11, yX4_init), (RX2, 40, yX4_init), (RX2, 41, yX0_init), (RX6, 25, yX1_init), (RX6, 32, yX5_init)]
/-- the words of the tables that stay but aren't among W0 -/
def GN (U : State) : Prop := (∀ q ∈ NLl, va_Nw (.methodLinkNest q.1 q.2.1 q.2.2 "BridgeNight") U) ∧ va_AO RX4 U ∧ va_AO RX0 U
theorem GN.warm {s U : State} (hW : s.WarmedH U.vm) (h : GN s) : GN U := ⟨fun q hq => va_Nw.warmM hW (h.1 q hq), va_AO.moved hW.alike h.2.1, va_AO.moved hW.alike h.2.2⟩
theorem GN.same {s U : State} (hv : U.vm = s.vm) (h : GN s) : GN U := ⟨fun q hq => va_Nw.same rfl hv.symm (h.1 q hq), va_AO.moved (by rw [hv]; exact Vm.Alike.refl _) h.2.1, va_AO.moved (by rw [hv]; exact Vm.Alike.refl _) h.2.2⟩
def Gsz (E : EnT) (M : GM) (H : Heap) : Prop := H.size = eS E + M.1 ∧ M.1 ≤ 120 ∧ ∀ i, M.1 ≤ i → M.2 i = V0 i
def Gx (E : EnT) (y : MT) (p : Program) (s : State) (m : MethodId) (args : Array Value) (meth : Method) (c : Code) (H : Heap) (locs : List Loc) (lsA : Array Slot) (ls : List (Option Value)) (M : GM) : Prop :=
  (p.tables.exec = Jvm.exec ∧ c.code = y.2.1 ∧ meth.sig.returnType = y.2.2.2 ∧ c.maxLocals = y.2.2.1 ∧ s.vm.findClass y.1.cls = some m.cls ∧ (∀ w ∈ W0, w.before args s = true) ∧ meth.locks = false ∧ (y.1.name = "<init>" → meth.name = "<init>") ∧ (¬ y.1.name = "<init>" → c.exceptionTable.toList = [] ∧ St E s s.heap ∧ s.heap.size = eS E)) ∧
  (va_K (eD E) vwCl (etys E) s ∧ GN s ∧ eS E ≤ s.heap.size) ∧
  (va_P (eD E) vwCl (gw E M) H ∧ Gsz E M H ∧ va_S (eA E) s.heap H locs) ∧ lv_has lsA y.2.2.1 (lvo (gad E) 0 ls)
def Gz (X : CT) (cu su pc : Nat) (ls : List (Option Value)) (st : List Value) (M : GM) : Prop :=
  ∀ (p : Program) (e : Env) (s : State) (m : MethodId) (args : Array Value) (below : List Frame) (meth : Method) (c : Code) (H : Heap) (locs : List Loc) (lsA : Array Slot),
    Gx X.2.1 X.2.2.1 p s m args meth c H locs lsA ls M →
    W p X.1 e (rmz X.2.2.2.2.1 X.2.2.2.2.2.1 X.2.2.2.2.2.2.1) s m args below meth c H locs cu su (X.2.2.2.2.2.2.2 below args s) (F0 m pc lsA (st.map (trv (gad X.2.1))))
section GR
variable {X : CT} {cu su pc pc' : Nat} {ls : List (Option Value)} {st : List Value} {M : GM}
theorem g_iconst {n : Int} {v : Int32} (hd : decode (xb X) pc = .ok (.iconst n, 1)) (hv : Int32.ofInt n = v) (hn : pc + 1 = pc') (h : Gz X cu su pc' ls (.int v :: st) M) : Gz X cu su pc ls (st) M := by
  subst hn
  intro p e s m args below meth c H locs lsA C
  obtain ⟨⟨hx, hb, hr, hml, hown, hts, hlk, htb, hls⟩, ⟨hK, hSt, hsz⟩, ⟨hP, hD, hS⟩, hl⟩ := id C
  exact lv_iconst hx hb hd hv (h p e s m args below meth c H locs lsA C)
theorem g_bipush {n : Int} {v : Int32} (hd : decode (xb X) pc = .ok (.bipush n, 2)) (hv : (Int8.ofInt n).toInt32 = v) (hn : pc + 2 = pc') (h : Gz X cu su pc' ls (.int v :: st) M) : Gz X cu su pc ls (st) M := by
  subst hn
  intro p e s m args below meth c H locs lsA C
  obtain ⟨⟨hx, hb, hr, hml, hown, hts, hlk, htb, hls⟩, ⟨hK, hSt, hsz⟩, ⟨hP, hD, hS⟩, hl⟩ := id C
  exact lv_bipush hx hb hd hv (h p e s m args below meth c H locs lsA C)
theorem g_sipush {n : Int} {v : Int32} (hd : decode (xb X) pc = .ok (.sipush n, 3)) (hv : (Int16.ofInt n).toInt32 = v) (hn : pc + 3 = pc') (h : Gz X cu su pc' ls (.int v :: st) M) : Gz X cu su pc ls (st) M := by
  subst hn
  intro p e s m args below meth c H locs lsA C
  obtain ⟨⟨hx, hb, hr, hml, hown, hts, hlk, htb, hls⟩, ⟨hK, hSt, hsz⟩, ⟨hP, hD, hS⟩, hl⟩ := id C
  exact lv_sipush hx hb hd hv (h p e s m args below meth c H locs lsA C)
theorem g_iload_n {k : Fin 4} {v : Int32} (hd : decode (xb X) pc = .ok (.iload_n k, 1)) (hv : ls[k.val]? = some (some (.int v))) (hn : pc + 1 = pc') (h : Gz X cu su pc' ls (.int v :: st) M) : Gz X cu su pc ls st M := by
  subst hn
  intro p e s m args below meth c H locs lsA C
  obtain ⟨⟨hx, hb, hr, hml, hown, hts, hlk, htb, hls⟩, ⟨hK, hSt, hsz⟩, ⟨hP, hD, hS⟩, hl⟩ := id C
  exact lv_iload_n hx hb hd rfl (lvo_at hl hv rfl) (h p e s m args below meth c H locs lsA C)
theorem g_aload_n {k : Fin 4} {v : Nat} (hd : decode (xb X) pc = .ok (.aload_n k, 1)) (hv : ls[k.val]? = some (some (.ref v))) (hn : pc + 1 = pc') (h : Gz X cu su pc' ls (.ref v :: st) M) : Gz X cu su pc ls st M := by
  subst hn
  intro p e s m args below meth c H locs lsA C
  obtain ⟨⟨hx, hb, hr, hml, hown, hts, hlk, htb, hls⟩, ⟨hK, hSt, hsz⟩, ⟨hP, hD, hS⟩, hl⟩ := id C
  exact lv_aload_n hx hb hd rfl (lvo_at hl hv rfl) (h p e s m args below meth c H locs lsA C)
theorem g_istore_n {k : Fin 4} {v : Int32} {ls2 : List (Option Value)} (hd : decode (xb X) pc = .ok (.istore_n k, 1)) (hL : k.val < xn X) (hs : ls.set k.val (some (.int v)) = ls2) (hn : pc + 1 = pc') (h : Gz X cu su pc' ls2 st M) : Gz X cu su pc ls (.int v :: st) M := by
  subst hn
  intro p e s m args below meth c H locs lsA C
  obtain ⟨⟨hx, hb, hr, hml, hown, hts, hlk, htb, hls⟩, ⟨hK, hSt, hsz⟩, ⟨hP, hD, hS⟩, hl⟩ := id C
  exact lv_istore_n hx hb hd rfl hl hL rfl (fun ls' hl' => h p e s m args below meth c H locs ls' ⟨C.1, C.2.1, C.2.2.1, by rw [← hs]; exact lvo_set hl'⟩)
theorem g_istore {k : Nat} {v : Int32} {ls2 : List (Option Value)} (hd : decode (xb X) pc = .ok (.istore k, 2)) (hL : k < xn X) (hs : ls.set k (some (.int v)) = ls2) (hn : pc + 2 = pc') (h : Gz X cu su pc' ls2 st M) : Gz X cu su pc ls (.int v :: st) M := by
  subst hn
  intro p e s m args below meth c H locs lsA C
  obtain ⟨⟨hx, hb, hr, hml, hown, hts, hlk, htb, hls⟩, ⟨hK, hSt, hsz⟩, ⟨hP, hD, hS⟩, hl⟩ := id C
  exact lv_istore hx hb hd hl hL rfl (fun ls' hl' => h p e s m args below meth c H locs ls' ⟨C.1, C.2.1, C.2.2.1, by rw [← hs]; exact lvo_set hl'⟩)
theorem g_astore_n {k : Fin 4} {v : Nat} {ls2 : List (Option Value)} (hd : decode (xb X) pc = .ok (.astore_n k, 1)) (hL : k.val < xn X) (hs : ls.set k.val (some (.ref v)) = ls2) (hn : pc + 1 = pc') (h : Gz X cu su pc' ls2 st M) : Gz X cu su pc ls (.ref v :: st) M := by
  subst hn
  intro p e s m args below meth c H locs lsA C
  obtain ⟨⟨hx, hb, hr, hml, hown, hts, hlk, htb, hls⟩, ⟨hK, hSt, hsz⟩, ⟨hP, hD, hS⟩, hl⟩ := id C
  exact lv_astore_n hx hb hd rfl hl hL rfl (fun ls' hl' => h p e s m args below meth c H locs ls' ⟨C.1, C.2.1, C.2.2.1, by rw [← hs]; exact lvo_set hl'⟩)
theorem g_iinc {k : Nat} {n : Int} {v : Int32} {ls2 : List (Option Value)} (hd : decode (xb X) pc = .ok (.iinc k n, 3)) (hv : ls[k]? = some (some (.int v))) (hL : k < xn X) (hs : ls.set k (some (.int (v + Int32.ofInt n))) = ls2) (hn : pc + 3 = pc') (h : Gz X cu su pc' ls2 st M) : Gz X cu su pc ls st M := by
  subst hn
  intro p e s m args below meth c H locs lsA C
  obtain ⟨⟨hx, hb, hr, hml, hown, hts, hlk, htb, hls⟩, ⟨hK, hSt, hsz⟩, ⟨hP, hD, hS⟩, hl⟩ := id C
  obtain ⟨i, hi⟩ := List.getElem?_of_mem (lvo_in (ad := gad X.2.1) (i := 0) hv rfl)
  rw [Nat.zero_add] at hi
  exact lv_iinc hx hb hd hl (k := i) hi rfl hL rfl (fun ls' hl' => h p e s m args below meth c H locs ls' ⟨C.1, C.2.1, C.2.2.1, by rw [← hs]; exact lvo_set hl'⟩)
theorem g_ist1 {o0 o1 : Option Value} {t : List (Option Value)} {v : Int32} (hd : decode (xb X) pc = .ok (.istore_n 1, 1)) (hL : 1 < xn X) (hn : pc + 1 = pc') (h : Gz X cu su pc' (o0 :: some (.int v) :: t) st M) : Gz X cu su pc (o0 :: o1 :: t) (.int v :: st) M := g_istore_n hd hL rfl hn h
theorem g_inc1 {o0 : Option Value} {t : List (Option Value)} {n : Int} {v r : Int32} (hd : decode (xb X) pc = .ok (.iinc 1 n, 3)) (hL : 1 < xn X) (hr9 : v + Int32.ofInt n = r) (hn : pc + 3 = pc') (h : Gz X cu su pc' (o0 :: some (.int r) :: t) st M) : Gz X cu su pc (o0 :: some (.int v) :: t) st M := g_iinc hd rfl hL (by rw [hr9]; rfl) hn h
theorem g_iu1 {o0 : Option Value} {t : List (Option Value)} {j : Nat} (hd : decode (xb X) pc = .ok (.iinc 1 1, 3)) (hL : 1 < xn X) (hn : pc + 3 = pc') (h : Gz X cu su pc' (o0 :: some (.int (nI (j + 1))) :: t) st M) : Gz X cu su pc (o0 :: some (.int (nI j)) :: t) st M := g_inc1 hd hL (nI_1 j) hn h
theorem g_dup {v : Value} (hd : decode (xb X) pc = .ok (.dup, 1)) (hv : v.category = 1) (hn : pc + 1 = pc') (h : Gz X cu su pc' ls (v :: v :: st) M) : Gz X cu su pc ls (v :: st) M := by
  subst hn
  intro p e s m args below meth c H locs lsA C
  obtain ⟨⟨hx, hb, hr, hml, hown, hts, hlk, htb, hls⟩, ⟨hK, hSt, hsz⟩, ⟨hP, hD, hS⟩, hl⟩ := id C
  exact lv_dup hx hb hd (by rw [trv_cat]; exact hv) (h p e s m args below meth c H locs lsA C)
theorem g_icmp_ge {a b : Int32} {off : Int} {tgt : Nat} (hd : decode (xb X) pc = .ok (.if_icmp .ge off, 3)) (ht : (pc : Int) + off = (tgt : Int)) (hn : pc + 3 = pc') (h : b ≤ a → Gz X cu su tgt ls st M) (h2 : ¬ b ≤ a → Gz X cu su pc' ls st M) : Gz X cu su pc ls (.int b :: .int a :: st) M := by
  subst hn
  intro p e s m args below meth c H locs lsA C
  obtain ⟨⟨hx, hb, hr, hml, hown, hts, hlk, htb, hls⟩, ⟨hK, hSt, hsz⟩, ⟨hP, hD, hS⟩, hl⟩ := id C
  exact lv_icmp_ge hx hb hd ht (fun q => h q p e s m args below meth c H locs lsA C) (fun q => h2 q p e s m args below meth c H locs lsA C)
theorem g_goto {off : Int} {tgt : Nat} (hd : decode (xb X) pc = .ok (.goto off, 3)) (ht : (pc : Int) + off = (tgt : Int)) (h : Gz X cu su tgt ls st M) : Gz X cu su pc ls st M := by
  intro p e s m args below meth c H locs lsA C
  obtain ⟨⟨hx, hb, hr, hml, hown, hts, hlk, htb, hls⟩, ⟨hK, hSt, hsz⟩, ⟨hP, hD, hS⟩, hl⟩ := id C
  exact lv_goto hx hb hd ht (h p e s m args below meth c H locs lsA C)
theorem Gsz.put {E : EnT} {M : GM} {H H1 : Heap} {k j : Nat} {g : Gv} (h : Gsz E M H) (hz : H1.size = H.size) (hk : k < M.1) : Gsz E (M.1, vu M.2 k j g) H1 := ⟨by rw [hz]; exact h.1, h.2.1, fun i hi => by
  show vu M.2 k j g i = V0 i
  rw [vu_o (show i ≠ k by have : M.1 ≤ i := hi; omega)]; exact h.2.2 i hi⟩
/-- a new object -/
theorem g_new {ci N ix : Nat} {C : String} {T : u_T} (ty0 : Nat → FieldType) (hd : decode (xb X) pc = .ok (.new ix, 3)) (hC : vwCl[ci]? = some (C, T, N)) (hci : ci < 8) (hin : ∀ w ∈ u_ws C T N, w ∈ W0) (hty : ∀ k, k < N → parseFieldDescriptor (T k).2.2.1 = some (ty0 k)) (hdv : ∀ j, j < N → defaultValue (ty0 j) = match rfd ci j with | some _ => Value.null | none => .int 0) (hcl : Cond.classLink (xo X) ix C ∈ W0) (hinst : Cond.instantiable C N ∈ W0) (hini : Cond.initialized C ∈ W0) (hk : gk M.1 = (ci, N)) (h120 : M.1 < 120) (hcu : cu + 1 ≤ X.2.2.2.2.2.1) (hsu : su + N ≤ X.2.2.2.2.2.2.1) (hn : pc + 3 = pc') (h : Gz X (cu + 1) (su + N) pc' ls (.ref M.1 :: st) (M.1 + 1, M.2)) : Gz X cu su pc ls st M := by
  subst hn
  intro p e s m args below meth c H locs lsA C9
  obtain ⟨⟨hx, hb, hr, hml, hown, hts, hlk, htb, hls⟩, ⟨hK, hSt, hsz⟩, ⟨hP, ⟨z0, z9, zV⟩, hS⟩, hl⟩ := id C9
  have hKn := hK.1 ci _ hC
  refine W.newcK hx hb hown (hts _ hcl) (hts _ hinst) (hts _ hini) rfl hd hcu hsu hKn.2.1 z0 fun H1 kC hkC e1 z1 o1 => ?_
  have hk1 : ∀ (k : Nat) (x : Nat × va_E), (gw X.2.1 M)[k]? = some x → H1[x.1]? = H[x.1]? := fun k x hx => o1 x.1 (by rw [← z0]; exact (hP k x hx).lt)
  refine W.eq (g2 := F0 m (pc + 3) lsA ((.ref M.1 :: st).map (trv (gad X.2.1)))) (by show F0 m (pc + 3) lsA (.ref (eS X.2.1 + M.1) :: _) = F0 m (pc + 3) lsA (.ref (gad X.2.1 M.1) :: _); rw [gad_lt (by omega)]) ?_
  refine h p e s m args below meth c H1 locs lsA ⟨C9.1, C9.2.1, ⟨?_, ⟨by rw [z1]; rfl, h120, fun i hi => zV i (by have : M.1 + 1 ≤ i := hi; omega)⟩, ⟨Nat.le_trans hS.1 (by omega), fun x h1 h2 => (o1 x (by have := hS.1; omega)).trans (hS.2.1 x h1 h2), hS.2.2⟩⟩, hl⟩
  rw [gw_push]
  refine (hP.kept hk1).app (fun k x hx => ?_)
  have hz : k < 1 := (List.getElem?_eq_some_iff.mp hx).1
  rw [show k = 0 by omega] at hx
  cases hx
  rw [gent_obj hk hci]
  refine ⟨_, hC, (u_born ty0 hts hin hKn hkC e1 hty).to (fun j hj => ?_)⟩
  rw [hdv j hj, zV M.1 (Nat.le_refl _)]
  have e5 : gvv X.2.1 (V0 M.1 j) = match rfd ci j with | some _ => Value.null | none => .int 0 := by
    unfold V0
    rw [hk, if_pos hci]
    show gvv X.2.1 (match rfd ci j with | some _ => none | none => some (.inr 0)) = _
    cases rfd ci j <;> rfl
  have hj' : j < N := hj
  simp [vp_V, hj', e5]
theorem g_newaG {ai : ArrayType} {ty : FieldType} {ti N : Nat} {cA : ClassId} {a0 : vp_A} {n : Int32} (hd : decode (xb X) pc = .ok (.newarray ai, 2)) (hty : newarray.typeOf ai = ty) (hw : Cond.arrayClass (newarray.typeOf ai) ∈ W0) (hT : (etys X.2.1)[ti]? = some (cA, ty)) (hRA : ∀ s, va_RA s cA ty → s.vm.findClass ("[" ++ ty.toString) = some cA) (ha : vp_cell cA a0 = arrV cA N (fun _ => defaultValue ty)) (hent : gent X.2.1 M.2 M.1 = .inl (cA, a0)) (hN : n.toNatClampNeg = N) (hn0 : ¬ n < 0) (hby : N * componentBytes ty ≤ 536870912) (h120 : M.1 < 120) (hcu : cu + 1 ≤ X.2.2.2.2.2.1) (hsu : su + N ≤ X.2.2.2.2.2.2.1) (hn : pc + 2 = pc') (h : Gz X (cu + 1) (su + N) pc' ls (.ref M.1 :: st) (M.1 + 1, M.2)) : Gz X cu su pc ls (.int n :: st) M := by
  subst hn
  intro p e s m args below meth c H locs lsA C9
  obtain ⟨⟨hx, hb, hr, hml, hown, hts, hlk, htb, hls⟩, ⟨hK, hSt, hsz⟩, ⟨hP, ⟨z0, z9, zV⟩, hS⟩, hl⟩ := id C9
  refine va_newaK hx hb (hts _ hw) rfl hd rfl hn0 hN (by rw [hty]; exact hby) hcu hsu z0 fun H1 cA1 e1 z1 o1 hAr hNm => ?_
  rw [hty] at e1 hNm
  have hc : cA1 = cA := Option.some.inj (hNm.symm.trans (hRA s (hK.2 ti _ hT).2))
  subst hc
  have hk1 : ∀ (k : Nat) (x : Nat × va_E), (gw X.2.1 M)[k]? = some x → H1[x.1]? = H[x.1]? := fun k x hx => o1 x.1 (by rw [← z0]; exact (hP k x hx).lt)
  refine W.eq (g2 := F0 m (pc + 2) lsA ((.ref M.1 :: st).map (trv (gad X.2.1)))) (by show F0 m (pc + 2) lsA (.ref (eS X.2.1 + M.1) :: _) = F0 m (pc + 2) lsA (.ref (gad X.2.1 M.1) :: _); rw [gad_lt (by omega)]) ?_
  refine h p e s m args below meth c H1 locs lsA ⟨C9.1, C9.2.1, ⟨?_, ⟨by rw [z1]; rfl, h120, fun i hi => zV i (by have : M.1 + 1 ≤ i := hi; omega)⟩, ⟨Nat.le_trans hS.1 (by omega), fun x h1 h2 => (o1 x (by have := hS.1; omega)).trans (hS.2.1 x h1 h2), hS.2.2⟩⟩, hl⟩
  rw [gw_push]
  refine (hP.kept hk1).app (fun k x hx => ?_)
  have hz : k < 1 := (List.getElem?_eq_some_iff.mp hx).1
  rw [show k = 0 by omega] at hx
  cases hx
  rw [hent]
  show H1[_]? = some (vp_cell cA1 a0)
  rw [ha]
  exact e1
theorem aw_i : Cond.arrayClass .int ∈ W0 := w0_1 117 rfl rfl
theorem aw_b : Cond.arrayClass .byte ∈ W0 := w0_3 27 rfl rfl
theorem aw_z : Cond.arrayClass .boolean ∈ W0 := w0_4 155 rfl rfl
theorem aw_l : Cond.arrayClass .long ∈ W0 := w0_5 102 rfl rfl
theorem g_ni {N : Nat} {n : Int32} (hd : decode (xb X) pc = .ok (.newarray .int, 2)) (hk : gk M.1 = (10, N)) (hN : n.toNatClampNeg = N) (hn0 : ¬ n < 0) (hby : N ≤ 1000) (h120 : M.1 < 120) (hcu : cu + 1 ≤ X.2.2.2.2.2.1) (hsu : su + N ≤ X.2.2.2.2.2.2.1) (hn : pc + 2 = pc') (h : Gz X (cu + 1) (su + N) pc' ls (.ref M.1 :: st) (M.1 + 1, M.2)) : Gz X cu su pc ls (.int n :: st) M :=
  g_newaG (ti := 0) (cA := eC X.2.1 0) (a0 := (N, .inl (fun _ => 0))) hd rfl aw_i rfl (fun _ h => h) (by rw [vp_cell_i]; rfl) (by rw [gent_t hk]; rfl) hN hn0 (by show N * 4 ≤ _; omega) h120 hcu hsu hn h
theorem g_nb {N : Nat} {n : Int32} (hd : decode (xb X) pc = .ok (.newarray .byte, 2)) (hk : gk M.1 = (11, N)) (hN : n.toNatClampNeg = N) (hn0 : ¬ n < 0) (hby : N ≤ 1000) (h120 : M.1 < 120) (hcu : cu + 1 ≤ X.2.2.2.2.2.1) (hsu : su + N ≤ X.2.2.2.2.2.2.1) (hn : pc + 2 = pc') (h : Gz X (cu + 1) (su + N) pc' ls (.ref M.1 :: st) (M.1 + 1, M.2)) : Gz X cu su pc ls (.int n :: st) M :=
  g_newaG (ti := 1) (cA := eC X.2.1 1) (a0 := (N, .inl (fun _ => 0))) hd rfl aw_b rfl (fun _ h => h) (by rw [vp_cell_i]; rfl) (by rw [gent_t hk]; rfl) hN hn0 (by show N * 1 ≤ _; omega) h120 hcu hsu hn h
theorem g_nz {N : Nat} {n : Int32} (hd : decode (xb X) pc = .ok (.newarray .boolean, 2)) (hk : gk M.1 = (12, N)) (hN : n.toNatClampNeg = N) (hn0 : ¬ n < 0) (hby : N ≤ 1000) (h120 : M.1 < 120) (hcu : cu + 1 ≤ X.2.2.2.2.2.1) (hsu : su + N ≤ X.2.2.2.2.2.2.1) (hn : pc + 2 = pc') (h : Gz X (cu + 1) (su + N) pc' ls (.ref M.1 :: st) (M.1 + 1, M.2)) : Gz X cu su pc ls (.int n :: st) M :=
  g_newaG (ti := 2) (cA := eC X.2.1 2) (a0 := (N, .inl (fun _ => 0))) hd rfl aw_z rfl (fun _ h => h) (by rw [vp_cell_i]; rfl) (by rw [gent_t hk]; rfl) hN hn0 (by show N * 1 ≤ _; omega) h120 hcu hsu hn h
theorem g_nl {N : Nat} {n : Int32} (hd : decode (xb X) pc = .ok (.newarray .long, 2)) (hk : gk M.1 = (15, N)) (hN : n.toNatClampNeg = N) (hn0 : ¬ n < 0) (hby : N ≤ 1000) (h120 : M.1 < 120) (hcu : cu + 1 ≤ X.2.2.2.2.2.1) (hsu : su + N ≤ X.2.2.2.2.2.2.1) (hn : pc + 2 = pc') (h : Gz X (cu + 1) (su + N) pc' ls (.ref M.1 :: st) (M.1 + 1, M.2)) : Gz X cu su pc ls (.int n :: st) M :=
  g_newaG (ti := 5) (cA := eC X.2.1 5) (a0 := (N, .inr (.inl (fun _ => 0)))) hd rfl aw_l rfl (fun _ h => h) (by rw [vp_cell_l]; rfl) (by rw [gent_t hk]; rfl) hN hn0 (by show N * 8 ≤ _; omega) h120 hcu hsu hn h
/-- a new array of references -/
theorem g_anew {C : String} {ix ti N : Nat} {cA : ClassId} {n : Int32} (hd : decode (xb X) pc = .ok (.anewarray ix, 3)) (hcl : Cond.classLink (xo X) ix C ∈ W0) (hao : ∀ s, GN s → va_AO C s) (hT : (etys X.2.1)[ti]? = some (cA, .object C)) (hent : gent X.2.1 V0 M.1 = .inl (cA, N, .inr (.inr (.inr (.inr (fun j => gop X.2.1 (V0 M.1 j))))))) (hk : gk M.1 = (13, N) ∨ gk M.1 = (14, N)) (hN : n.toNatClampNeg = N) (hn0 : ¬ n < 0) (hby : N ≤ 1000) (h120 : M.1 < 120) (hcu : cu + 1 ≤ X.2.2.2.2.2.1) (hsu : su + N ≤ X.2.2.2.2.2.2.1) (hn : pc + 3 = pc') (h : Gz X (cu + 1) (su + N) pc' ls (.ref M.1 :: st) (M.1 + 1, M.2)) : Gz X cu su pc ls (.int n :: st) M := by
  subst hn
  subst hN
  intro p e s m args below meth c H locs lsA C9
  obtain ⟨⟨hx, hb, hr, hml, hown, hts, hlk, htb, hls⟩, ⟨hK, hSt, hsz⟩, ⟨hP, ⟨z0, z9, zV⟩, hS⟩, hl⟩ := id C9
  refine W.anew hx hb hown (hts _ hcl) (va_AO.use (hao s hSt)) rfl hd rfl hn0 (by omega) hcu hsu fun cA1 kA comp f1 f2 f3 f4 => ?_
  obtain ⟨kA2, comp2, g1, g2, g3, g4⟩ := (hK.2 ti _ hT).2
  have hc : cA1 = cA := Option.some.inj (f1.symm.trans g4)
  subst hc
  generalize hH1 : H.push ({ cls := cA1, slots := Array.replicate n.toNatClampNeg .null, vm := .none } : Cell) = H1
  have z1 : H1.size = H.size + 1 := by rw [← hH1, Array.size_push]
  have e1 : H1[H.size]? = some (arrV cA1 n.toNatClampNeg (fun _ => .null)) := by rw [← hH1, Array.getElem?_push_size, ← arrV_new]
  have o1 : ∀ q : Nat, q < H.size → H1[q]? = H[q]? := fun q hq => by rw [← hH1, Array.getElem?_push, if_neg (Nat.ne_of_lt hq)]
  have hk1 : ∀ (k : Nat) (x : Nat × va_E), (gw X.2.1 M)[k]? = some x → H1[x.1]? = H[x.1]? := fun k x hx => o1 x.1 ((hP k x hx).lt)
  refine W.eq (g2 := F0 m (pc + 3) lsA ((.ref M.1 :: st).map (trv (gad X.2.1)))) (by show F0 m (pc + 3) lsA (.ref H.size :: _) = F0 m (pc + 3) lsA (.ref (gad X.2.1 M.1) :: _); rw [gad_lt (by omega), z0]) ?_
  refine h p e s m args below meth c H1 locs lsA ⟨C9.1, C9.2.1, ⟨?_, ⟨by rw [z1, z0]; rfl, h120, fun i hi => zV i (by have : M.1 + 1 ≤ i := hi; omega)⟩, ⟨Nat.le_trans hS.1 (by omega), fun x h1 h2 => (o1 x (by have := hS.1; omega)).trans (hS.2.1 x h1 h2), hS.2.2⟩⟩, hl⟩
  rw [gw_push]
  refine (hP.kept hk1).app (fun k x hx => ?_)
  have hz : k < 1 := (List.getElem?_eq_some_iff.mp hx).1
  rw [show k = 0 by omega] at hx
  cases hx
  have e6 : gent X.2.1 M.2 M.1 = gent X.2.1 V0 M.1 := by
    unfold gent gentT
    rw [zV M.1 (Nat.le_refl _)]
  rw [e6, hent, ← z0]
  show H1[_]? = some (vp_cell cA1 (n.toNatClampNeg, .inr (.inr (.inr (.inr (fun j => gop X.2.1 (V0 M.1 j)))))))
  rw [vp_cell_q, e1]
  have e7 : ∀ j, V0 M.1 j = none := fun j => by
    unfold V0
    rcases hk with q | q <;> rw [q] <;> rfl
  congr 2
  funext j
  rw [e7 j]
  rfl
theorem g_aw {n : Int32} (hd : decode (xb X) pc = .ok (.anewarray 9, 3)) (hcl : Cond.classLink (xo X) 9 RX4 ∈ W0) (hk : gk M.1 = (13, 16)) (hN : n.toNatClampNeg = 16) (hn0 : ¬ n < 0) (h120 : M.1 < 120) (hcu : cu + 1 ≤ X.2.2.2.2.2.1) (hsu : su + 16 ≤ X.2.2.2.2.2.2.1) (hn : pc + 3 = pc') (h : Gz X (cu + 1) (su + 16) pc' ls (.ref M.1 :: st) (M.1 + 1, M.2)) : Gz X cu su pc ls (.int n :: st) M :=
  g_anew (C := RX4) (ti := 3) (cA := eC X.2.1 3) hd hcl (fun s q => q.2.1) rfl (by rw [gent_t hk]; rfl) (Or.inl hk) hN hn0 (by decide) h120 hcu hsu hn h
theorem g_ar {n : Int32} (hd : decode (xb X) pc = .ok (.anewarray 21, 3)) (hcl : Cond.classLink (xo X) 21 RX0 ∈ W0) (hk : gk M.1 = (14, 22)) (hN : n.toNatClampNeg = 22) (hn0 : ¬ n < 0) (h120 : M.1 < 120) (hcu : cu + 1 ≤ X.2.2.2.2.2.1) (hsu : su + 22 ≤ X.2.2.2.2.2.2.1) (hn : pc + 3 = pc') (h : Gz X (cu + 1) (su + 22) pc' ls (.ref M.1 :: st) (M.1 + 1, M.2)) : Gz X cu su pc ls (.int n :: st) M :=
  g_anew (C := RX0) (ti := 4) (cA := eC X.2.1 4) hd hcl (fun s q => q.2.2) rfl (by rw [gent_t hk]; rfl) (Or.inr hk) hN hn0 (by decide) h120 hcu hsu hn h
theorem gw_obj {E : EnT} {M : GM} {k t n : Nat} (hk : gk k = (t, n)) (ht : t < 8) (h : k < M.1) : (gw E M)[k]? = some (eS E + k, .inr (t, (List.range n).map (fun j => gvv E (M.2 k j)))) := by rw [gw_at h, gent_obj hk ht]
/-- a field of an object that the constructors made -/
theorem g_get {ci n k j ix r : Nat} {C : String} {T : u_T} (hd : decode (xb X) pc = .ok (.getfield ix, 3)) (hk : gk k = (ci, n)) (hci : ci < 8) (hC : vwCl[ci]? = some (C, T, n)) (hin : ∀ w ∈ u_ws C T n, w ∈ W0) (hj : j < n) (hw : Cond.fieldLink (xo X) ix (T j).1 (T j).2.1 (T j).2.2.1 ∈ W0) (hkM : k < M.1) (hv : M.2 k j = some (.inl r)) (hn : pc + 3 = pc') (h : Gz X cu su pc' ls (.ref r :: st) M) : Gz X cu su pc ls (.ref k :: st) M := by
  subst hn
  intro p e s m args below meth c H locs lsA C9
  obtain ⟨⟨hx, hb, hr, hml, hown, hts, hlk, htb, hls⟩, ⟨hK, hSt, hsz⟩, ⟨hP, ⟨z0, z9, zV⟩, hS⟩, hl⟩ := id C9
  show W _ _ _ _ _ _ _ _ _ _ _ _ _ _ _ (F0 m pc lsA (.ref (gad X.2.1 k) :: st.map (trv (gad X.2.1))))
  rw [gad_lt (show k < 1000 by omega)]
  exact va_get hx hb hts hin hown hK hP k (gw_obj hk hci hkM) hC j hj (hts _ hw) (fun _ q => q) (v := .ref (gad X.2.1 r)) (by simp [hj, hv, gvv]) hd (h p e s m args below meth c H locs lsA C9)
theorem g_put {ci n k j ix : Nat} {C : String} {T : u_T} {ty0 : Nat → FieldType} {ty : FieldType} {v : Value} {g : Gv} (hd : decode (xb X) pc = .ok (.putfield ix, 3)) (hk : gk k = (ci, n)) (hci : ci < 8) (hC : vwCl[ci]? = some (C, T, n)) (hin : ∀ w ∈ u_ws C T n, w ∈ W0) (hty : ∀ k, k < n → parseFieldDescriptor (T k).2.2.1 = some (ty0 k)) (hnm : ∀ a, a < n → ∀ b, b < n → a ≠ b → (T a).2.1 ≠ (T b).2.1) (hj : j < n) (hw : Cond.fieldLink (xo X) ix (T j).1 (T j).2.1 (T j).2.2.1 ∈ W0) (hfin : (T j).2.2.2 = false ∨ ((T j).2.2.2 = true ∧ X.2.2.1.1.name = "<init>" ∧ (T j).1 = xo X)) (ht : ty0 j = ty) (hkM : k < M.1) (hv : trv (gad X.2.1) v = gvv X.2.1 g) (hnr : narrow ty (gvv X.2.1 g) = gvv X.2.1 g) (hfit : fits ty (gvv X.2.1 g) = true) (hn : pc + 3 = pc') (h : Gz X cu su pc' ls st (M.1, vu M.2 k j g)) : Gz X cu su pc ls (v :: .ref k :: st) M := by
  subst hn
  intro p e s m args below meth c H locs lsA C9
  obtain ⟨⟨hx, hb, hr, hml, hown, hts, hlk, htb, hls⟩, ⟨hK, hSt, hsz⟩, ⟨hP, hz, hS⟩, hl⟩ := id C9
  have hz9 := hz.2.1
  show W _ _ _ _ _ _ _ _ _ _ _ _ _ _ _ (F0 m pc lsA (trv (gad X.2.1) v :: .ref (gad X.2.1 k) :: st.map (trv (gad X.2.1))))
  rw [hv, gad_lt (show k < 1000 by omega)]
  have hD := gw_D X.2.1 M
  have he := gw_obj (E := X.2.1) hk hci hkM
  have hap := va_apart (own := xo X) hts hin ty0 hty hnm hK hC
  obtain ⟨r, h1, cell, q1, q2, q3, q4⟩ := hP k _ he
  have hr9 : r = (C, T, n) := Option.some.inj (h1.symm.trans hC)
  subst hr9
  obtain ⟨hSl, hfc, kC, hkC, hkind⟩ := hK.1 ci _ hC
  obtain ⟨cf, kf, fi, f, hi, hsl⟩ := hSl j hj
  have hlay := hts _ (hin _ (u_in_lay hj))
  have hst := (u_facts hfc hkC (u_lays hts hin hj) hi).1
  have hlen : j < ((List.range n).map (fun j => gvv X.2.1 (M.2 k j))).length := by simp [hj]
  have fin : ∀ H1 : Heap, H1[eS X.2.1 + k]? = some (cell.setSlot f.slot (gvv X.2.1 g)) → H1.size = H.size → (∀ q : Nat, q ≠ eS X.2.1 + k → H1[q]? = H[q]?) → W p X.1 e (rmz X.2.2.2.2.1 X.2.2.2.2.2.1 X.2.2.2.2.2.2.1) s m args below meth c H1 (locs ++ [{ base := eS X.2.1 + k, slot := f.slot }]) cu su (X.2.2.2.2.2.2.2 below args s) (F0 m (pc + 3) lsA (st.map (trv (gad X.2.1)))) := fun H1 e1 e2 e3 => by
    rw [hsl] at e1 ⊢
    have hP1 := hP.set (e := .inr (ci, ((List.range n).map (fun j => gvv X.2.1 (M.2 k j))).set j (gvv X.2.1 g))) (H1 := H1) hD he ⟨_, hC, t_OB.to (V := updV (vp_V ((List.range n).map (fun j => gvv X.2.1 (M.2 k j)))) j (gvv X.2.1 g)) ⟨_, e1, q2, q3, t_set q4 hap hj (gvv X.2.1 g)⟩ (fun i _ => vp_updV_set hlen (gvv X.2.1 g) i)⟩ e3
    rw [gw_set_obj hk hci hkM] at hP1
    exact h p e s m args below meth c H1 _ lsA ⟨C9.1, C9.2.1, ⟨hP1, hz.put e2 hkM, hS.put e2 e3 (hD.2 k _ he)⟩, hl⟩
  unfold u_lay at hlay
  rcases hfin with hf | ⟨hf, hin9, hdc⟩
  · rw [if_neg (by rw [hf]; decide)] at hlay
    have h6 := u_store hfc hkC hkind hlay hi (by rw [hty j hj, ht]) hnr hfit
    exact W.putK hx hb (f := f) ⟨hown, hts _ hw, ⟨_, _, _, hi⟩, hst⟩ (by rw [q2]; exact h6) q1 q3 (by rw [hsl]; exact k2_hasslot (q4 j hj)) rfl rfl hd fin
  · rw [if_pos hf] at hlay
    have hcf : m.cls = cf := by
      obtain ⟨_, _, c', _, _, _, -, -, hf', -, -, -, hown2, -⟩ := Cond.laysFinal_spec hlay
      have e1 : c' = cf := by have := hi.symm.trans hf'; simp at this; exact this.1.symm
      rw [hdc] at hown2
      rw [← e1]; exact Option.some.inj (hown.symm.trans hown2)
    have h6 := u_fits hfc hkC hkind (Or.inr hlay) hi (by rw [hty j hj, ht]) hnr hfit
    exact W.putFinK hx hb hown (hts _ hw) hi hst hcf (htb hin9) (by rw [q2]; exact h6) q1 q3 (by rw [hsl]; exact k2_hasslot (q4 j hj)) rfl rfl hd fin
theorem g_alen {k n : Nat} (hd : decode (xb X) pc = .ok (.arraylength, 1)) (hk : gk k = (13, n) ∨ gk k = (14, n)) (hkM : k < M.1) (hn : pc + 1 = pc') (h : Gz X cu su pc' ls (.int (nI n) :: st) M) : Gz X cu su pc ls (.ref k :: st) M := by
  subst hn
  intro p e s m args below meth c H locs lsA C9
  obtain ⟨⟨hx, hb, hr, hml, hown, hts, hlk, htb, hls⟩, ⟨hK, hSt, hsz⟩, ⟨hP, ⟨z0, z9, zV⟩, hS⟩, hl⟩ := id C9
  show W _ _ _ _ _ _ _ _ _ _ _ _ _ _ _ (F0 m pc lsA (.ref (gad X.2.1 k) :: st.map (trv (gad X.2.1))))
  rw [gad_lt (show k < 1000 by omega)]
  rcases hk with q | q
  · exact va_alen (x := (n, .inr (.inr (.inr (.inr (fun j => gop X.2.1 (M.2 k j))))))) hx hb hK hP k 3 ((gw_at hkM).trans (by rw [gent_t q]; rfl)) rfl rfl hd (h p e s m args below meth c H locs lsA C9)
  · exact va_alen (x := (n, .inr (.inr (.inr (.inr (fun j => gop X.2.1 (M.2 k j))))))) hx hb hK hP k 4 ((gw_at hkM).trans (by rw [gent_t q]; rfl)) rfl rfl hd (h p e s m args below meth c H locs lsA C9)
theorem g_aast {a v n n2 ci ti ta : Nat} {i : Int32} {C : String} {T : u_T} {cA : ClassId} (hd : decode (xb X) pc = .ok (.aastore, 1)) (ha : gk a = (ta, n)) (hent : ∀ V, gent X.2.1 V a = .inl (cA, n, .inr (.inr (.inr (.inr (fun j => gop X.2.1 (V a j))))))) (hT : (etys X.2.1)[ti]? = some (cA, .object C)) (hv : gk v = (ci, n2)) (hci : ci < 8) (hC : vwCl[ci]? = some (C, T, n2)) (haM : a < M.1) (hvM : v < M.1) (hi0 : ¬ i < 0) (hin : i.toNatClampNeg < n) (hn : pc + 1 = pc') (h : Gz X cu su pc' ls st (M.1, vu M.2 a i.toNatClampNeg (some (.inl v)))) : Gz X cu su pc ls (.ref v :: .int i :: .ref a :: st) M := by
  subst hn
  intro p e s m args below meth c H locs lsA C9
  obtain ⟨⟨hx, hb, hr, hml, hown, hts, hlk, htb, hls⟩, ⟨hK, hSt, hsz⟩, ⟨hP, hz, hS⟩, hl⟩ := id C9
  have hz9 := hz.2.1
  show W _ _ _ _ _ _ _ _ _ _ _ _ _ _ _ (F0 m pc lsA (.ref (gad X.2.1 v) :: .int i :: .ref (gad X.2.1 a) :: st.map (trv (gad X.2.1))))
  rw [gad_lt (show v < 1000 by omega), gad_lt (show a < 1000 by omega)]
  have hD := gw_D X.2.1 M
  have hwa : (gw X.2.1 M)[a]? = some (eS X.2.1 + a, .inl (cA, n, .inr (.inr (.inr (.inr (fun j => gop X.2.1 (M.2 a j))))))) := by rw [gw_at haM, hent]
  obtain ⟨r', hr', cellV, g1, g2, g3, -⟩ := hP v _ (gw_obj hv hci hvM)
  have hcls := (hK.1 ci _ hC).2
  obtain ⟨kA, comp, k1, k2, k3, -⟩ := (hK.2 ti _ hT).2
  have hcomp : comp = (eD X.2.1).1 ci := Option.some.inj (k3.symm.trans hcls.1)
  subst hcomp
  obtain ⟨kC, hkC, -⟩ := hcls.2
  refine W.aast hx hb (hP a _ hwa) (fun q h => by cases h) (fun h => by cases h) k1 k2 rfl hkC ⟨hi0, by show _ < (arrV _ _ _).slots.size; rw [arrV_size]; exact hin⟩ g1 (fun q h => by rw [g3] at h; cases h) (by rw [g2]; exact hkC) (by rw [g2]; exact va_assign hcls) rfl rfl hd fun H1 e1 z1 oq => ?_
  have hP1 := hP.set (H1 := H1) (e := .inl (cA, n, .inr (.inr (.inr (.inr (fun j => gop X.2.1 (vu M.2 a i.toNatClampNeg (some (.inl v)) a j))))))) hD hwa (by
    show H1[eS X.2.1 + a]? = some (vp_cell _ _)
    rw [e1]
    rw [vp_cell_q, vp_cell_q, arrV_store]
    congr 2
    funext q
    rw [vu_k]
    by_cases hq : q = i.toNatClampNeg
    · subst hq
      simp [updV, va_rf, gop, gad_lt (show v < 1000 by omega)]
    · simp [updV, hq]) oq
  rw [gw_set (j := i.toNatClampNeg) (g := some (.inl v)) haM (by rw [hent])] at hP1
  exact h p e s m args below meth c H1 _ lsA ⟨C9.1, C9.2.1, ⟨hP1, hz.put z1 haM, hS.put z1 oq (hD.2 a _ hwa)⟩, hl⟩
theorem g_obj {ix b : Nat} (hd : decode (xb X) pc = .ok (.invokespecial ix, 3)) (hw : Cond.methodLink (xo X) ix Lib.objectInit ∈ W0) (hfr : 1 ≤ X.2.2.2.2.1) (hst : (st.map fun v => v.category).sum ≤ 8) (hn : pc + 3 = pc') (h : Gz X cu su pc' ls st M) : Gz X cu su pc ls (.ref b :: st) M := by
  subst hn
  intro p e s m args below meth c H locs lsA C9
  obtain ⟨⟨hx, hb, hr, hml, hown, hts, hlk, htb, hls⟩, ⟨hK, hSt, hsz⟩, ⟨hP, ⟨z0, z9, zV⟩, hS⟩, hl⟩ := id C9
  have hcats : (((st.map (trv (gad X.2.1))).map fun v => v.category).sum) ≤ 8 := by
    rw [List.map_map, show ((fun v : Value => v.category) ∘ trv (gad X.2.1)) = fun v => v.category from funext fun v => trv_cat _ v]
    exact hst
  have hroom : 2 * (F0 m pc lsA ((.ref b :: st).map (trv (gad X.2.1)))).monitorRoom + ((st.map (trv (gad X.2.1))).map fun v => v.category).sum + 12 ≤ 40 * X.2.2.2.2.1 := by
    show 2 * 0 + _ + 12 ≤ _
    omega
  exact W.eq (g2 := F0 m (pc + 3) lsA (st.map (trv (gad X.2.1)))) rfl (h p e s m args below meth c H locs lsA C9) |> W.objInit hx hb hown (hts _ hw) (hts _ (w0_1 28 rfl rfl)) (hts _ (w0_1 29 rfl rfl)) rfl (by rw [hml]; exact hl.1) rfl hd hfr hroom
end GR
def GPre (E : EnT) (b : Nat) (M : GM) : Array Value → State → Prop := fun a U =>
  a = #[.ref (gad E b)] ∧ va_K (eD E) vwCl (etys E) U ∧ GN U ∧ eS E ≤ U.heap.size ∧ va_P (eD E) vwCl (gw E M) U.heap ∧ Gsz E M U.heap
theorem GPre.blind {E : EnT} {b : Nat} {M : GM} : FrameBlind (GPre E b M) := fun a U g mk q => by
  obtain ⟨h1, h2, h3, h4, h5, h6⟩ := q
  exact ⟨h1, va_K.moved (u := U) (U := U.calling g mk a) (Vm.Alike.refl U.vm) h2, GN.same (s := U) (U := U.calling g mk a) rfl h3, h4, h5, h6⟩
def GPost (E : EnT) (M : GM) : Array Value → State → Outcome → State → Prop := fun _ st o t =>
  o = .returned none ∧ va_P (eD E) vwCl (gw E M) t.heap ∧ Gsz E M t.heap ∧ va_F (eA E) st t
def FinG (E : EnT) (M : GM) (kc ks : Nat) : List Frame → Array Value → State → State → Prop := fun below args s => MQ below (GPost E M) args s kc ks (eA E)
/-- a constructor's contract: of the object b, from the world M to the world N -/
def Gm (l : Launch) (E : EnT) (y : MT) (d kc ks b : Nat) (M N : GM) : Prop :=
  Met l y.1 (wsy y) (rmz d kc ks) (GPre E b M) (GPost E N) kc ks (eA E)
theorem g_return {l : Launch} {E : EnT} {y : MT} {d kc ks cu su pc : Nat} {ls : List (Option Value)} {M : GM} (hd : decode y.2.1 pc = .ok (.return_, 1)) (hr : y.2.2.2 = none) (hc : cu ≤ kc) (hs : su ≤ ks) : Gz (l, E, y, [], d, kc, ks, FinG E M kc ks) cu su pc ls [] M := by
  intro p e s m args below meth c H locs lsA C9
  obtain ⟨⟨hx, hb, hr0, hml, hown, hts, hlk, htb, hls⟩, ⟨hK, hSt, hsz⟩, ⟨hP, hz, hS⟩, hl⟩ := id C9
  refine W.widen hc hs (W.vret hx hb (by rw [hr0]; exact hr) (fun t ht hW => ?_) hS.2.2 hd)
  exact ⟨rfl, by rw [ht]; exact hP, by rw [ht]; exact hz, hS.F ht⟩
theorem Gm_of {l : Launch} {E : EnT} {y : MT} {d kc ks b : Nat} {M N : GM} (hp : plainName y.1.cls = true) (hnm : y.1.name = "<init>") (hlen : 1 ≤ y.2.2.1)
    (body : Gz (l, E, y, [], d, kc, ks, FinG E N kc ks) 0 0 0 (some (.ref b) :: List.replicate (y.2.2.1 - 1) none) [] M) : Gm l E y d kc ks b M N := by
  refine Met.ofW (cc := y.2.1) (maxL := y.2.2.1) (ret := y.2.2.2) hp rfl ?_
  intro p e s m args below meth c s₁ B hml hv
  obtain ⟨rfl, hK, hG, hsz, hP, hz⟩ := hv
  have hts := atoms_spec (ws := wsy y) B.pre
  have hl := lv_entry ([.ref (gad E b)] : List Value) (n := y.2.2.1) hlen
  show W _ _ _ _ _ _ _ _ _ _ _ _ _ _ _ (entryFrame m ([.ref (gad E b)] : List Value).toArray y.2.2.1)
  rw [lg_entry_eq]
  refine body p e s m _ below meth c s.heap [] _ ⟨⟨B.exec, B.bytes, B.returns, hml, findClass_of_methodNamed B.named, fun w hw => hts w (List.mem_cons_of_mem _ hw), B.notSynchronized, fun q => ((name_of_methodNamed B.named B.method).1).trans q, fun q => absurd hnm q⟩, ⟨hK, hG, hsz⟩, ⟨hP, hz, va_S.rf⟩, ?_⟩
  have e1 := lvo_args (ad := gad E) [.ref b] 0 (y.2.2.1 - 1) (fun v hv => by simp at hv; subst hv; rfl)
  have e2 : (some (.ref b) :: List.replicate (y.2.2.1 - 1) none : List (Option Value)) = ([.ref b] : List Value).map some ++ List.replicate (y.2.2.1 - 1) none := rfl
  rw [e2, e1]
  exact hl
section GC
variable {X : CT} {cu su pc pc' d : Nat} {ls : List (Option Value)} {st : List Value} {M : GM}
theorem g_back {kc ks b : Nat} {N : GM} {a : Array Value} {p : Program} {e : Env} {s : State} {m : MethodId} {args : Array Value} {below : List Frame} {meth : Method} {c : Code} {H : Heap} {locs : List Loc} {lsA : Array Slot} {stk : List Value}
    (C : Gx X.2.1 X.2.2.1 p s m args meth c H locs lsA ls M)
    (hr : va_Run p X.1 e (rmz X.2.2.2.2.1 X.2.2.2.2.2.1 X.2.2.2.2.2.2.1) s m args below meth c H locs cu su kc ks (F0 m pc lsA stk) (st.map (trv (gad X.2.1))) (GPost X.2.1 N a) (eA X.2.1))
    (h : Gz X (cu + kc) (su + ks) (pc + 3) ls st N) :
    W p X.1 e (rmz X.2.2.2.2.1 X.2.2.2.2.2.1 X.2.2.2.2.2.2.1) s m args below meth c H locs cu su (X.2.2.2.2.2.2.2 below args s) (F0 m pc lsA stk) := by
  intro T hT Xs
  obtain ⟨v, st₀, t, T', L, h0, X', hL, e1, e2, ⟨hv, hP1, hz1, hF⟩, sg⟩ := hr T hT Xs
  cases hv
  have hS := C.2.2.1.2.2
  have hF1 : H.size ≤ T'.heap.size := by rw [e1, ← h0]; exact hF.1
  have hF2 : ∀ q : Nat, q < H.size → ¬ eA X.2.1 q → T'.heap[q]? = H[q]? := fun q h1 h2 => by rw [e1, ← h0]; exact hF.2 q (by rw [h0]; exact h1) h2
  have hS1 : va_S (eA X.2.1) s.heap T'.heap (locs ++ L) := ⟨Nat.le_trans hS.1 hF1, fun q h1 h2 => (hF2 q (Nat.lt_of_lt_of_le h1 hS.1) h2).trans (hS.2.1 q h1 h2), fun q hq => by
    rcases List.mem_append.mp hq with h | h
    · exact hS.2.2 q h
    · exact hL q h⟩
  obtain ⟨t2, a1, b1⟩ := h p e s m args below meth c T'.heap (locs ++ L) lsA ⟨C.1, C.2.1, ⟨by rw [e1]; exact hP1, by rw [e1]; exact hz1, hS1⟩, C.2.2.2⟩ T' rfl X'
  exact ⟨t2, sg t2 a1, b1⟩
def InsI (y : MT) : Prop := Cond.code y.1 y.2.1 y.2.2.1 y.2.2.2 ∈ W0 ∧ Cond.instanceMethod y.1 ∈ W0 ∧ y.1.name = "<init>" ∧ y.2.2.2 = none ∧ Cond.initialized y.1.cls ∈ W0 ∧ (y.1.cls ≠ "java/lang/invoke/MethodHandle" ∧ y.1.cls ≠ "java/lang/invoke/VarHandle") ∧ (parseMethodDescriptor y.1.desc).map (fun d => d.parameters.length) = some 0 ∧ y.2.2.1 ≤ 21
theorem g_call {y : MT} {ix b kc ks : Nat} {N : GM} (hd : decode (xb X) pc = .ok (.invokespecial ix, 3)) (hw : Cond.methodLink (xo X) ix y.1 ∈ W0 ∨ (xo X, ix, y.1) ∈ NLl) (hi : InsI y) (hdp : d + 1 ≤ X.2.2.2.2.1) (hst : (st.map fun v => v.category).sum ≤ 8) (hcu : cu + kc ≤ X.2.2.2.2.2.1) (hsu : su + ks ≤ X.2.2.2.2.2.2.1)
    (hM : Gm X.1 X.2.1 y d kc ks b M N) (hn : pc + 3 = pc') (h : Gz X (cu + kc) (su + ks) pc' ls st N) : Gz X cu su pc ls (.ref b :: st) M := by
  subst hn
  intro p e s m args below meth c H locs lsA C9
  obtain ⟨⟨hx, hb, hr, hml, hown, hts, hlk, htb, hls⟩, ⟨hK, hSt, hsz⟩, ⟨hP, hz, hS⟩, hl⟩ := id C9
  obtain ⟨i1, i2, i3, i3b, i4, i5, i6, i7⟩ := hi
  have hlo : 8 + (y.2.2.1 + 11) + (rmz d kc ks).locals ≤ (rmz X.2.2.2.2.1 X.2.2.2.2.2.1 X.2.2.2.2.2.2.1).locals := by
    show 8 + (y.2.2.1 + 11) + 40 * d ≤ 40 * X.2.2.2.2.1
    omega
  have hcats : (((st.map (trv (gad X.2.1))).map fun v => v.category).sum) ≤ 8 := by
    rw [List.map_map, show ((fun v : Value => v.category) ∘ trv (gad X.2.1)) = fun v => v.category from funext fun v => trv_cat _ v]
    exact hst
  have hpre : PreS s H (GPre X.2.1 b M) (.ref (gad X.2.1 b) :: []) := ⟨GPre.blind, fun U hU hW => ⟨rfl, va_K.moved hW.alike hK, hSt.warm hW, by rw [hU]; exact Nat.le_trans hsz hS.1, by rw [hU]; exact hP, by rw [hU]; exact hz⟩⟩
  rcases hw with hw | hw
  · have cb : CallB (rmz X.2.2.2.2.1 X.2.2.2.2.2.1 X.2.2.2.2.2.2.1) s args (xo X) ix y.1 y.2.1 y.2.2.1 none (wsy y) (rmz d kc ks) kc ks 0 :=
      callB_of (ws' := W0) 0 hts (wsy_good i1) (by unfold wsy; rw [i3b]) rfl rfl (hts _ i4) (hts _ hw) ⟨i5.1, i5.2, i6⟩ ⟨hdp, hlo⟩
    exact g_back (b := b) C9 (va_runI (b := gad X.2.1 b) (As := []) (rest := st.map (trv (gad X.2.1))) (Ts := W0) (own := xo X) (nL := xn X) ⟨hx, hb, hml, hown, hts⟩ hM ⟨cb, i3, hts _ i2⟩ hpre rfl rfl hl.1 rfl (lv_room hcats) hd ⟨hcu, hsu⟩) h
  · have cb : va_CN (rmz X.2.2.2.2.1 X.2.2.2.2.2.1 X.2.2.2.2.2.2.1) s args (xo X) ix y.1 "BridgeNight" y.2.1 y.2.2.1 none (wsy y) (rmz d kc ks) kc ks 0 :=
      va_cnB (ws' := W0) 0 hts (wsy_good i1) (by unfold wsy; rw [i3b]) rfl rfl (hSt.1 _ hw) (hts _ i4) ⟨i5.1, i5.2, i6⟩ ⟨hdp, hlo⟩
    exact g_back (b := b) C9 (va_runIN (b := gad X.2.1 b) (As := []) (rest := st.map (trv (gad X.2.1))) (Ts := W0) (own := xo X) (nL := xn X) ⟨hx, hb, hml, hown, hts⟩ hM ⟨cb, i3, hts _ i2⟩ hpre rfl rfl hl.1 rfl (lv_room hcats) hd ⟨hcu, hsu⟩) h
end GC
