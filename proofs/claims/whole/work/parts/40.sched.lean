/-! bits (out of kit/laws/BITS.to-paste) -/
def bt (x : Int32) (i : Nat) : Bool := x.toBitVec.getLsbD i
theorem b_ext {x y : Int32} (h : ∀ i, i < 32 → bt x i = bt y i) : x = y := Int32.toBitVec_inj.mp (BitVec.eq_of_getLsbD_eq (fun i hi => h i hi))
theorem b_or (x y : Int32) (i : Nat) : bt (x ||| y) i = (bt x i || bt y i) := by unfold bt; rw [Int32.toBitVec_or, BitVec.getLsbD_or]
theorem b_and (x y : Int32) (i : Nat) : bt (x &&& y) i = (bt x i && bt y i) := by unfold bt; rw [Int32.toBitVec_and, BitVec.getLsbD_and]
theorem b_xor (x y : Int32) (i : Nat) : bt (x ^^^ y) i = (bt x i ^^ bt y i) := by unfold bt; rw [Int32.toBitVec_xor, BitVec.getLsbD_xor]
theorem b_big {x : Int32} {i : Nat} (h : 32 ≤ i) : bt x i = false := BitVec.getLsbD_of_ge _ _ h
theorem b_m1 : ∀ i, i < 32 → bt (-1) i = true := by decide +kernel
theorem b_0 (i : Nat) : bt 0 i = false := BitVec.getLsbD_zero
theorem b_one : ∀ n, n < 32 → ∀ i, i < 32 → bt ((1 : Int32) <<< (nI n &&& 31)) i = decide (i = n) := by decide +kernel
theorem b_not (x : Int32) {i : Nat} (hi : i < 32) : bt (x ^^^ (-1)) i = !bt x i := by rw [b_xor, b_m1 i hi, Bool.xor_true]
theorem b_eq0 {x : Int32} : x = 0 ↔ ∀ i, i < 32 → bt x i = false := ⟨fun h i _ => by rw [h, b_0], fun h => b_ext (fun i hi => by rw [h i hi, b_0])⟩
theorem s_l : ∀ n, n < 32 → ((nI n &&& 31).toBitVec.smod 32).toNat = n := by decide +kernel
theorem b_sshr (n : Nat) (hn : n < 32) (x : Int32) {i : Nat} (hi : i < 32) : bt (x >>> (nI n &&& 31)) i = if n + i < 32 then bt x (n + i) else bt x 31 := by
  unfold bt
  rw [Int32.toBitVec_shiftRight]
  show (x.toBitVec.sshiftRight ((nI n &&& 31).toBitVec.smod 32).toNat).getLsbD i = _
  rw [s_l n hn, BitVec.getLsbD_sshiftRight]
  have h1 : ¬ (32 ≤ i) := by omega
  simp only [h1, decide_false, Bool.not_false, Bool.true_and]
  rfl
theorem b_1 : ∀ i, i < 32 → bt 1 i = decide (i = 0) := by decide +kernel
/-- the reference's test of a bit -/
theorem b_test {x : Int32} {o : Nat} (ho : o < 32) : ((x >>> (nI o &&& 31)) &&& 1 = 1) ↔ bt x o = true := by
  have key : ∀ i, i < 32 → bt ((x >>> (nI o &&& 31)) &&& 1) i = (decide (i = 0) && bt x o) := fun i hi => by
    rw [b_and, b_1 i hi]
    by_cases h0 : i = 0
    · subst h0; rw [b_sshr o ho x hi]; simp [ho]
    · simp [h0]
  constructor
  · intro h
    have := key 0 (by decide)
    rw [h] at this
    simpa [b_1 0 (by decide)] using this.symm
  · intro h
    apply b_ext
    intro i hi
    rw [key i hi, h, b_1 i hi, Bool.and_true]
/-! the schedule: works 0 .. n - 1; hours, things, hands, who is after whom; the crew -/
abbrev Pb : Type := Nat × (Nat → Nat) × (Nat → Nat) × (Nat → Nat) × (Nat → Nat → Bool) × Nat
abbrev pN (P : Pb) : Nat := P.1
abbrev pH (P : Pb) : Nat → Nat := P.2.1
abbrev pT (P : Pb) : Nat → Nat := P.2.2.1
abbrev pD (P : Pb) : Nat → Nat := P.2.2.2.1
abbrev pA (P : Pb) : Nat → Nat → Bool := P.2.2.2.2.1
abbrev pC (P : Pb) : Nat := P.2.2.2.2.2
abbrev Sch : Type := Nat → Option Nat
def runs (s : Sch) (e : Nat → Bool) (w : Nat) : Bool := (s w).isSome && !e w
def isEnd (P : Pb) (s : Sch) (h w : Nat) : Bool := match s w with
  | some b => decide (b + pH P w ≤ h)
  | none => false
/-- w may begin, as far as the first m works say -/
def okTo (P : Pb) (s : Sch) (e : Nat → Bool) (w : Nat) : Nat → Bool
  | 0 => true
  | o + 1 => okTo P s e w o && !(pA P w o && !e o) && !(runs s e o && decide (0 < pT P o) && decide (pT P o = pT P w))
def useTo (P : Pb) (s : Sch) (e : Nat → Bool) : Nat → Nat
  | 0 => 0
  | o + 1 => useTo P s e o + if runs s e o then pD P o else 0
def may (P : Pb) (s : Sch) (e : Nat → Bool) (w : Nat) : Bool := okTo P s e w (pN P) && decide (useTo P s e (pN P) + pD P w ≤ pC P)
def sup (s : Sch) (w h : Nat) : Sch := fun i => if i = w then some h else s i
/-- those of the first k of the order that can begin at h do so -/
def bgTo (P : Pb) (od : Nat → Nat) (h : Nat) (e : Nat → Bool) (s : Sch) : Nat → Sch
  | 0 => s
  | k + 1 => let s1 := bgTo P od h e s k
    if s1 (od k) = none ∧ may P s1 e (od k) = true then sup s1 (od k) h else s1
/-- the least end of those that run -/
def nxTo (P : Pb) (s : Sch) (e : Nat → Bool) : Nat → Option Nat
  | 0 => none
  | w + 1 => match s w with
    | none => nxTo P s e w
    | some b => if e w then nxTo P s e w else match nxTo P s e w with
      | none => some (b + pH P w)
      | some x => if b + pH P w < x then some (b + pH P w) else some x
def goS (P : Pb) (od : Nat → Nat) : Nat → Sch → Nat → Sch × Nat
  | 0, s, h => (s, h)
  | f + 1, s, h =>
    let s1 := bgTo P od h (isEnd P s h) s (pN P)
    match nxTo P s1 (isEnd P s h) (pN P) with
    | none => (s1, h)
    | some h1 => goS P od f s1 h1
def s0 : Sch := fun _ => none
def allB (s : Sch) : Nat → Bool
  | 0 => true
  | w + 1 => allB s w && (s w).isSome
/-- when each begins, and END -/
def schd (P : Pb) (od : Nat → Nat) : Sch := (goS P od (pN P + 1) s0 0).1
def endS (P : Pb) (od : Nat → Nat) : Option Nat := if allB (schd P od) (pN P) then some (goS P od (pN P + 1) s0 0).2 else none
theorem okTo_iff {P : Pb} {s : Sch} {e : Nat → Bool} {w : Nat} : ∀ {m : Nat}, okTo P s e w m = true ↔ ∀ o, o < m → (pA P w o = true → e o = true) ∧ ¬ (runs s e o = true ∧ 0 < pT P o ∧ pT P o = pT P w)
  | 0 => ⟨fun _ o h => absurd h (Nat.not_lt_zero o), fun _ => rfl⟩
  | m + 1 => by
    unfold okTo
    rw [Bool.and_eq_true, Bool.and_eq_true, okTo_iff (m := m)]
    constructor
    · intro ⟨⟨h1, h2⟩, h3⟩ o ho
      rcases Nat.lt_or_ge o m with q | q
      · exact h1 o q
      · have : o = m := by omega
        subst this
        refine ⟨fun ha => ?_, fun ⟨r1, r2, r3⟩ => ?_⟩
        · simpa [ha] using h2
        · simp [r1, r2, r3] at h3; omega
    · intro h
      refine ⟨⟨fun o ho => h o (by omega), ?_⟩, ?_⟩
      · have := (h m (by omega)).1
        cases ha : pA P w m
        · rfl
        · simp [this ha]
      · have := (h m (by omega)).2
        cases hr : runs s e m
        · rfl
        · by_cases h1 : 0 < pT P m
          · by_cases h2 : pT P m = pT P w
            · exact absurd ⟨hr, h1, h2⟩ this
            · simp [h2]
          · simp [h1]
theorem useTo_cg {P : Pb} {s s2 : Sch} {e e2 : Nat → Bool} : ∀ {m : Nat}, (∀ o, o < m → runs s e o = runs s2 e2 o) → useTo P s e m = useTo P s2 e2 m
  | 0, _ => rfl
  | m + 1, h => by
    unfold useTo
    rw [useTo_cg (m := m) (fun o ho => h o (by omega)), h m (by omega)]
theorem useTo_sup {P : Pb} {s s2 : Sch} {e e2 : Nat → Bool} {w : Nat} (hr : runs s e w = false) (hr2 : runs s2 e2 w = true) (ho : ∀ o, o ≠ w → runs s2 e2 o = runs s e o) : ∀ {m : Nat}, w < m → useTo P s2 e2 m = useTo P s e m + pD P w
  | 0, h => absurd h (Nat.not_lt_zero w)
  | m + 1, h => by
    unfold useTo
    rcases Nat.lt_or_ge w m with q | q
    · rw [useTo_sup hr hr2 ho q, ho m (by omega)]; omega
    · have : w = m := by omega
      subst this
      rw [hr, hr2, useTo_cg (m := w) (s := s2) (e := e2) (s2 := s) (e2 := e) (fun o hq => ho o (by omega))]
      simp
theorem useTo_le {P : Pb} {s : Sch} {e : Nat → Bool} (h30 : ∀ w, w < pN P → pD P w ≤ 30) : ∀ {m : Nat}, m ≤ pN P → useTo P s e m ≤ 30 * m
  | 0, _ => Nat.le_refl 0
  | m + 1, h => by
    have := useTo_le (s := s) (e := e) h30 (m := m) (by omega)
    have := h30 m (by omega)
    unfold useTo
    split <;> omega
theorem runs_sup_o {s : Sch} {e : Nat → Bool} {w h o : Nat} (ho : o ≠ w) : runs (sup s w h) e o = runs s e o := by unfold runs sup; rw [if_neg ho]
theorem runs_sup_w {s : Sch} {e : Nat → Bool} {w h : Nat} (he : e w = false) : runs (sup s w h) e w = true := by unfold runs sup; rw [if_pos rfl, he]; rfl
theorem isEnd_none {P : Pb} {s : Sch} {h w : Nat} (hs : s w = none) : isEnd P s h w = false := by unfold isEnd; rw [hs]
theorem isEnd_some {P : Pb} {s : Sch} {h w b : Nat} (hs : s w = some b) : isEnd P s h w = decide (b + pH P w ≤ h) := by unfold isEnd; rw [hs]
