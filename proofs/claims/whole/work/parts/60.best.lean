/-! BEST: orders are functions on the first n numbers -/
def Pm (n : Nat) (f : Nat → Nat) : Prop := (∀ k, k < n → f k < n) ∧ ∀ i j, i < n → j < n → f i = f j → i = j
def ltP (n : Nat) (f g : Nat → Nat) : Prop := ∃ i, i < n ∧ (∀ j, j < i → f j = g j) ∧ f i < g i
def eqP (n : Nat) (f g : Nat → Nat) : Prop := ∀ k, k < n → f k = g k
def cod8 (f : Nat → Nat) : Nat → Nat
  | 0 => 0
  | m + 1 => cod8 f m * 8 + f m
theorem cod8_cg {f g : Nat → Nat} : ∀ {m : Nat}, (∀ k, k < m → f k = g k) → cod8 f m = cod8 g m
  | 0, _ => rfl
  | m + 1, h => by rw [cod8, cod8, cod8_cg (m := m) (fun k hk => h k (by omega)), h m (by omega)]
theorem cod8_lt {f g : Nat → Nat} : ∀ {m : Nat}, (∀ k, k < m → f k < 8) → ltP m f g → cod8 f m < cod8 g m
  | 0, _, ⟨i, hi, _⟩ => absurd hi (Nat.not_lt_zero i)
  | m + 1, h8, ⟨i, hi, h1, h2⟩ => by
    rw [cod8, cod8]
    rcases Nat.lt_or_ge i m with q | q
    · have := cod8_lt (m := m) (fun k hk => h8 k (by omega)) ⟨i, q, h1, h2⟩
      have := h8 m (by omega)
      omega
    · have : i = m := by omega
      subst this
      rw [cod8_cg (m := i) h1]; omega
theorem cod8_bd {f : Nat → Nat} : ∀ {m : Nat}, (∀ k, k < m → f k < 8) → cod8 f m < 8 ^ m
  | 0, _ => Nat.zero_lt_one
  | m + 1, h => by
    have := cod8_bd (m := m) (fun k hk => h k (by omega))
    have := h m (by omega)
    rw [cod8, Nat.pow_succ]; omega
theorem triP (f g : Nat → Nat) : ∀ n, ltP n f g ∨ eqP n f g ∨ ltP n g f
  | 0 => Or.inr (Or.inl (fun k hk => absurd hk (Nat.not_lt_zero k)))
  | n + 1 => by
    rcases triP f g n with ⟨i, h1, h2, h3⟩ | h | ⟨i, h1, h2, h3⟩
    · exact Or.inl ⟨i, by omega, h2, h3⟩
    · rcases Nat.lt_trichotomy (f n) (g n) with q | q | q
      · exact Or.inl ⟨n, by omega, h, q⟩
      · refine Or.inr (Or.inl (fun k hk => ?_))
        rcases Nat.lt_or_ge k n with z | z
        · exact h k z
        · have : k = n := by omega
          subst this; exact q
      · exact Or.inr (Or.inr ⟨n, by omega, fun j hj => (h j hj).symm, q⟩)
    · exact Or.inr (Or.inr ⟨i, by omega, h2, h3⟩)
theorem Pm.lt8 {n : Nat} {f : Nat → Nat} (h : Pm n f) (h7 : n ≤ 7) : ∀ k, k < n → f k < 8 := fun k hk => by have := h.1 k hk; omega
theorem ltP_irr {n : Nat} {f g : Nat → Nat} (h : ltP n f g) (e : eqP n f g) : False := by
  obtain ⟨i, h1, h2, h3⟩ := h
  have := e i h1
  omega
theorem ltP_asy {n : Nat} {f g : Nat → Nat} (h : ltP n f g) (k : ltP n g f) : False := by
  obtain ⟨i, h1, h2, h3⟩ := h
  obtain ⟨j, k1, k2, k3⟩ := k
  rcases Nat.lt_trichotomy i j with q | q | q
  · have := k2 i q; omega
  · subst q; omega
  · have := h2 j q; omega
theorem ltP_tr {n : Nat} {f g k : Nat → Nat} (h : ltP n f g) (h' : ltP n g k) : ltP n f k := by
  obtain ⟨i, h1, h2, h3⟩ := h
  obtain ⟨j, k1, k2, k3⟩ := h'
  rcases Nat.lt_trichotomy i j with q | q | q
  · exact ⟨i, h1, fun m hm => (h2 m hm).trans (k2 m (by omega)), by rw [← k2 i q]; exact h3⟩
  · subst q; exact ⟨i, h1, fun m hm => (h2 m hm).trans (k2 m hm), by omega⟩
  · exact ⟨j, k1, fun m hm => (h2 m (by omega)).trans (k2 m hm), by rw [h2 j q]; exact k3⟩
theorem ltP_cgL {n : Nat} {f g k : Nat → Nat} (e : eqP n f g) (h : ltP n g k) : ltP n f k := by
  obtain ⟨i, h1, h2, h3⟩ := h
  exact ⟨i, h1, fun m hm => (e m (by omega)).trans (h2 m hm), by rw [e i h1]; exact h3⟩
theorem ltP_cgR {n : Nat} {f g k : Nat → Nat} (h : ltP n f g) (e : eqP n g k) : ltP n f k := by
  obtain ⟨i, h1, h2, h3⟩ := h
  exact ⟨i, h1, fun m hm => (h2 m hm).trans (e m (by omega)), by rw [← e i h1]; exact h3⟩
/-- the first j of anything do not reach more than j -/
theorem pigeon : ∀ (j n : Nat) (f : Nat → Nat), (∀ v, v < n → ∃ i, i < j ∧ f i = v) → n ≤ j
  | 0, n, f, h => by
    rcases Nat.eq_zero_or_pos n with q | q
    · omega
    · obtain ⟨i, hi, _⟩ := h 0 q; omega
  | j + 1, n, f, h => by
    rcases Nat.eq_zero_or_pos n with q | q
    · omega
    · have := pigeon j (n - 1) (fun i => if f j < f i then f i - 1 else f i) (fun v hv => by
        rcases Nat.lt_or_ge v (f j) with z | z
        · obtain ⟨i, h1, h2⟩ := h v (by omega)
          have : i ≠ j := fun e => by subst e; omega
          exact ⟨i, by omega, by rw [if_neg (by omega)]; exact h2⟩
        · obtain ⟨i, h1, h2⟩ := h (v + 1) (by omega)
          have : i ≠ j := fun e => by subst e; omega
          exact ⟨i, by omega, by rw [if_pos (by omega)]; omega⟩)
      omega
theorem inj_le : ∀ (n m : Nat) (f : Nat → Nat), (∀ i, i < n → f i < m) → (∀ i j, i < n → j < n → f i = f j → i = j) → n ≤ m
  | 0, m, _, _, _ => Nat.zero_le m
  | n + 1, m, f, h, hi => by
    have h0 := h n (by omega)
    have := inj_le n (m - 1) (fun i => if f n < f i then f i - 1 else f i) (fun i hin => by
      have := h i (by omega)
      have : f i ≠ f n := fun e => by have := hi i n (by omega) (by omega) e; omega
      split <;> omega) (fun i j h1 h2 he => by
      have a : f i ≠ f n := fun e => by have := hi i n (by omega) (by omega) e; omega
      have b : f j ≠ f n := fun e => by have := hi j n (by omega) (by omega) e; omega
      apply hi i j (by omega) (by omega)
      split at he <;> split at he <;> omega)
    omega
theorem Pm.surj {n : Nat} {f : Nat → Nat} (h : Pm n f) {v : Nat} (hv : v < n) : ∃ i, i < n ∧ f i = v := by
  refine Classical.byContradiction fun hno => ?_
  have hne : ∀ i, i < n → f i ≠ v := fun i hi e => hno ⟨i, hi, e⟩
  have := inj_le n (n - 1) (fun i => if v < f i then f i - 1 else f i) (fun i hi => by
    have := h.1 i hi
    have := hne i hi
    split <;> omega) (fun i j h1 h2 he => by
    have := hne i h1
    have := hne j h2
    apply h.2 i j h1 h2
    split at he <;> split at he <;> omega)
  omega
/-! neighbours that may change places -/
def NL (P : Pb) (u v : Nat) : Prop := pA P u v = true ∨ ((pT P u = pT P v → pT P u = 0) ∧ (pD P u = 0 ∨ pD P v = 0))
def stB (P : Pb) (h : Nat) (e : Nat → Bool) (s : Sch) (w : Nat) : Sch := if s w = none ∧ may P s e w = true then sup s w h else s
theorem bgTo_s {P : Pb} {od : Nat → Nat} {h : Nat} {e : Nat → Bool} {s : Sch} {k : Nat} : bgTo P od h e s (k + 1) = stB P h e (bgTo P od h e s k) (od k) := rfl
theorem bgTo_cg {P : Pb} {od od2 : Nat → Nat} {h : Nat} {e : Nat → Bool} {s : Sch} : ∀ {m : Nat}, (∀ k, k < m → od k = od2 k) → bgTo P od h e s m = bgTo P od2 h e s m
  | 0, _ => rfl
  | m + 1, hk => by rw [bgTo_s, bgTo_s, bgTo_cg (m := m) (fun k h => hk k (by omega)), hk m (by omega)]
theorem goS_cg {P : Pb} {od od2 : Nat → Nat} (hk : ∀ h s, bgTo P od h (isEnd P s h) s (pN P) = bgTo P od2 h (isEnd P s h) s (pN P)) : ∀ {f : Nat} {s : Sch} {h : Nat}, goS P od f s h = goS P od2 f s h
  | 0, _, _ => rfl
  | f + 1, s, h => by
    rw [goS_s, goS_s, hk h s]
    cases nxTo P (bgTo P od2 h (isEnd P s h) s (pN P)) (isEnd P s h) (pN P) with
    | none => rfl
    | some h1 => exact goS_cg hk
theorem endS_cg {P : Pb} {od od2 : Nat → Nat} (hk : ∀ h s, bgTo P od h (isEnd P s h) s (pN P) = bgTo P od2 h (isEnd P s h) s (pN P)) : endS P od = endS P od2 := by
  unfold endS schd
  rw [goS_cg hk]
theorem endS_eqP {P : Pb} {od od2 : Nat → Nat} (hk : eqP (pN P) od od2) : endS P od = endS P od2 := endS_cg (fun _ _ => bgTo_cg hk)
theorem stB_no {P : Pb} {h : Nat} {e : Nat → Bool} {s : Sch} {w : Nat} (hn : ¬ (s w = none ∧ may P s e w = true)) : stB P h e s w = s := by unfold stB; rw [if_neg hn]
theorem stB_yes {P : Pb} {h : Nat} {e : Nat → Bool} {s : Sch} {w : Nat} (hn : s w = none ∧ may P s e w = true) : stB P h e s w = sup s w h := by unfold stB; rw [if_pos hn]
theorem stB_keep {P : Pb} {h : Nat} {e : Nat → Bool} {s : Sch} {w v : Nat} (hs : s v ≠ none) : stB P h e s w v = s v := by
  unfold stB
  split
  · rename_i q
    unfold sup
    rw [if_neg (fun z => hs (by rw [z]; exact q.1))]
  · rfl
theorem may_iff {P : Pb} {s : Sch} {e : Nat → Bool} {w : Nat} : may P s e w = true ↔ (okTo P s e w (pN P) = true ∧ useTo P s e (pN P) + pD P w ≤ pC P) := by
  unfold may; rw [Bool.and_eq_true, decide_eq_true_eq]
theorem may_sup {P : Pb} {h : Nat} {e : Nat → Bool} {s : Sch} {u v : Nat} (hu : u < pN P) (hs : s u = none) (he : e u = false) (hm : may P s e u = true) (hT : pT P u = pT P v → pT P u = 0) (hD : pD P u = 0 ∨ pD P v = 0) : may P (sup s u h) e v = true ↔ may P s e v = true := by
  have hr : runs s e u = false := by unfold runs; rw [hs]; rfl
  have hr2 : runs (sup s u h) e u = true := runs_sup_w he
  have hU : useTo P (sup s u h) e (pN P) = useTo P s e (pN P) + pD P u := useTo_sup hr hr2 (fun o ho => runs_sup_o ho) hu
  have hm2 := (may_iff.mp hm).2
  rw [may_iff, may_iff, hU, okTo_iff, okTo_iff]
  constructor
  · intro ⟨h1, h2⟩
    refine ⟨fun o ho => ⟨(h1 o ho).1, fun ⟨r1, r2, r3⟩ => ?_⟩, by omega⟩
    by_cases q : o = u
    · subst q; rw [hr] at r1; cases r1
    · exact (h1 o ho).2 ⟨by rw [runs_sup_o q]; exact r1, r2, r3⟩
  · intro ⟨h1, h2⟩
    refine ⟨fun o ho => ⟨(h1 o ho).1, fun ⟨r1, r2, r3⟩ => ?_⟩, by omega⟩
    by_cases q : o = u
    · subst q; have := hT r3; omega
    · exact (h1 o ho).2 ⟨by rw [runs_sup_o q] at r1; exact r1, r2, r3⟩
theorem st_sw {P : Pb} {h : Nat} {e : Nat → Bool} {s : Sch} {u v : Nat} (hu : u < pN P) (hv : v < pN P) (huv : u ≠ v) (he : ∀ w, e w = true → s w ≠ none) (hn : NL P u v) : stB P h e (stB P h e s u) v = stB P h e (stB P h e s v) u := by
  rcases hn with ha | ⟨hT, hD⟩
  · cases hev : e v with
    | true =>
      have h1 := he v hev
      rw [stB_no (s := stB P h e s u) (w := v) (fun q => h1 (by rw [← stB_keep (P := P) (h := h) (e := e) (w := u) h1]; exact q.1)), stB_no (s := s) (w := v) (fun q => h1 q.1)]
    | false =>
      have hno : ∀ s, ¬ (s u = none ∧ may P s e u = true) := fun s q => by
        have := (okTo_iff.mp (may_iff.mp q.2).1 v hv).1 ha
        rw [hev] at this; cases this
      rw [stB_no (s := s) (w := u) (hno s), stB_no (s := stB P h e s v) (w := u) (hno _)]
  · have ef : ∀ w, s w = none → e w = false := fun w hw => by
      cases q : e w with
      | false => rfl
      | true => exact absurd hw (he w q)
    have hT2 : pT P v = pT P u → pT P v = 0 := fun q => by rw [q]; exact hT q.symm
    by_cases a : s u = none ∧ may P s e u = true <;> by_cases b : s v = none ∧ may P s e v = true
    · rw [stB_yes a, stB_yes b, stB_yes (s := sup s u h) (w := v) ⟨by unfold sup; rw [if_neg huv.symm]; exact b.1, (may_sup hu a.1 (ef u a.1) a.2 hT hD).mpr b.2⟩, stB_yes (s := sup s v h) (w := u) ⟨by unfold sup; rw [if_neg huv]; exact a.1, (may_sup hv b.1 (ef v b.1) b.2 hT2 hD.symm).mpr a.2⟩]
      funext i
      unfold sup
      by_cases q1 : i = u
      · subst q1; simp
      · by_cases q2 : i = v
        · subst q2; simp
        · simp [q1, q2]
    · rw [stB_yes a, stB_no b, stB_yes a, stB_no]
      intro q
      refine b ⟨?_, (may_sup hu a.1 (ef u a.1) a.2 hT hD).mp q.2⟩
      have := q.1
      unfold sup at this
      rw [if_neg huv.symm] at this
      exact this
    · rw [stB_no a, stB_yes b, stB_no]
      intro q
      refine a ⟨?_, (may_sup hv b.1 (ef v b.1) b.2 hT2 hD.symm).mp q.2⟩
      have := q.1
      unfold sup at this
      rw [if_neg huv] at this
      exact this
    · rw [stB_no a, stB_no b, stB_no a]
def swp (f : Nat → Nat) (i : Nat) : Nat → Nat := fun k => if k = i then f (i + 1) else if k = i + 1 then f i else f k
theorem swp_0 {f : Nat → Nat} {i : Nat} : swp f i i = f (i + 1) := by unfold swp; rw [if_pos rfl]
theorem swp_1 {f : Nat → Nat} {i : Nat} : swp f i (i + 1) = f i := by unfold swp; rw [if_neg (by omega), if_pos rfl]
theorem swp_o {f : Nat → Nat} {i k : Nat} (h0 : k ≠ i) (h1 : k ≠ i + 1) : swp f i k = f k := by unfold swp; rw [if_neg h0, if_neg h1]
theorem bg_sw {P : Pb} {od : Nat → Nat} {h i : Nat} {s : Sch} (hu : od i < pN P) (hv : od (i + 1) < pN P) (huv : od i ≠ od (i + 1)) (hn : NL P (od i) (od (i + 1))) : ∀ {d : Nat}, bgTo P od h (isEnd P s h) s (i + 2 + d) = bgTo P (swp od i) h (isEnd P s h) s (i + 2 + d)
  | 0 => by
    show bgTo P od h (isEnd P s h) s (i + 1 + 1) = bgTo P (swp od i) h (isEnd P s h) s (i + 1 + 1)
    rw [bgTo_s, bgTo_s, bgTo_s, bgTo_s, swp_0, swp_1, bgTo_cg (od := swp od i) (od2 := od) (m := i) (fun k hk => swp_o (by omega) (by omega))]
    refine st_sw hu hv huv (fun w hw hno => ?_) hn
    cases hs : s w with
    | none => rw [isEnd_none hs] at hw; cases hw
    | some b => rw [bgTo_keep hs] at hno; cases hno
  | d + 1 => by
    show bgTo P od h (isEnd P s h) s (i + 2 + d + 1) = bgTo P (swp od i) h (isEnd P s h) s (i + 2 + d + 1)
    rw [bgTo_s, bgTo_s, bg_sw hu hv huv hn (d := d), swp_o (by omega) (by omega)]
theorem end_sw {P : Pb} {od : Nat → Nat} {i : Nat} (hi : i + 1 < pN P) (hu : od i < pN P) (hv : od (i + 1) < pN P) (huv : od i ≠ od (i + 1)) (hn : NL P (od i) (od (i + 1))) : endS P od = endS P (swp od i) :=
  endS_cg (fun h s => by
    have := bg_sw (h := h) (s := s) hu hv huv hn (d := pN P - (i + 2))
    rw [show i + 2 + (pN P - (i + 2)) = pN P by omega] at this
    exact this)
theorem Pm_swp {n : Nat} {f : Nat → Nat} {i : Nat} (h : Pm n f) (hi : i + 1 < n) : Pm n (swp f i) := by
  constructor
  · intro k hk
    unfold swp
    split
    · exact h.1 _ hi
    · split
      · exact h.1 _ (by omega)
      · exact h.1 k hk
  · intro a b ha hb he
    unfold swp at he
    split at he
    · split at he
      · omega
      · split at he
        · have := h.2 _ _ hi (by omega) he; omega
        · have := h.2 _ _ hi hb he; omega
    · split at he
      · split at he
        · have := h.2 _ _ (by omega) hi he; omega
        · split at he
          · omega
          · have := h.2 _ _ (by omega) hb he; omega
      · split at he
        · have := h.2 _ _ ha hi he; omega
        · split at he
          · have := h.2 _ _ ha (by omega) he; omega
          · exact h.2 _ _ ha hb he
/-! whether there is an END has nothing to do with the order -/
theorem bgTo_mono {P : Pb} {od : Nat → Nat} {h : Nat} {e : Nat → Bool} {s : Sch} {k w b : Nat} (hs : bgTo P od h e s k w = some b) : ∀ {d : Nat}, bgTo P od h e s (k + d) w = some b
  | 0 => hs
  | d + 1 => by
    show bgTo P od h e s (k + d + 1) w = some b
    rw [bgTo_s, stB_keep (by rw [bgTo_mono hs]; exact Option.some_ne_none b), bgTo_mono hs]
theorem goS_fin {P : Pb} {od : Nat → Nat} (hod : ∀ k, k < pN P → od k < pN P) (hH : ∀ w, w < pN P → 1 ≤ pH P w ∧ pH P w ≤ 40) : ∀ (f : Nat) (s : Sch) (h : Nat), Good P s h → cntU (isEnd P s h) (pN P) < f → ∃ s2 h2, (goS P od f s h).1 = bgTo P od h2 (isEnd P s2 h2) s2 (pN P) ∧ nxTo P (bgTo P od h2 (isEnd P s2 h2) s2 (pN P)) (isEnd P s2 h2) (pN P) = none
  | 0, _, _, _, hc => absurd hc (Nat.not_lt_zero _)
  | f + 1, s, h, hg, hc => by
    rw [goS_s]
    cases hn : nxTo P (bgTo P od h (isEnd P s h) s (pN P)) (isEnd P s h) (pN P) with
    | none => exact ⟨s, h, rfl, hn⟩
    | some h1 =>
      obtain ⟨_, _, t3, t4, _⟩ := turn hod hH hg hn
      exact goS_fin hod hH f _ h1 t3 (by omega)
theorem goS_nb {P : Pb} {od : Nat → Nat} {w : Nat} (hm : ∀ s e, may P s e w = false) : ∀ (f : Nat) (s : Sch) (h : Nat), s w = none → (goS P od f s h).1 w = none
  | 0, _, _, hs => hs
  | f + 1, s, h, hs => by
    have key : ∀ k, bgTo P od h (isEnd P s h) s k w = none := fun k => by
      induction k with
      | zero => exact hs
      | succ k ih =>
        rw [bgTo_s]
        unfold stB
        split
        · rename_i q
          unfold sup
          split
          · rename_i z
            rw [← z, hm] at q
            exact absurd q.2 (by decide)
          · exact ih
        · exact ih
    rw [goS_s]
    cases hn : nxTo P (bgTo P od h (isEnd P s h) s (pN P)) (isEnd P s h) (pN P) with
    | none => exact key _
    | some h1 => exact goS_nb hm f _ h1 (key _)
theorem least_no {p : Nat → Bool} : ∀ {n : Nat}, ¬ (∀ w, w < n → p w = true) → ∃ w, w < n ∧ p w = false ∧ ∀ o, o < w → p o = true
  | 0, h => absurd (fun w hw => absurd hw (Nat.not_lt_zero w)) h
  | n + 1, h => by
    by_cases q : ∀ w, w < n → p w = true
    · refine ⟨n, by omega, ?_, q⟩
      cases hp : p n with
      | false => rfl
      | true => exact absurd (fun w hw => by
          rcases Nat.lt_or_ge w n with z | z
          · exact q w z
          · have : w = n := by omega
            subst this; exact hp) h
    · obtain ⟨w, w1, w2, w3⟩ := least_no q
      exact ⟨w, by omega, w2, w3⟩
theorem end_ex {P : Pb} {od : Nat → Nat} (hP : Pm (pN P) od) (hH : ∀ w, w < pN P → 1 ≤ pH P w ∧ pH P w ≤ 40) (hA : ∀ w o, w < pN P → pA P w o = true → o < w) : endS P od ≠ none ↔ ∀ w, w < pN P → pD P w ≤ pC P := by
  constructor
  · intro h w hw
    refine Nat.le_of_not_lt fun q => h ?_
    have hm : ∀ s e, may P s e w = false := fun s e => by
      cases hx : may P s e w with
      | false => rfl
      | true => have := (may_iff.mp hx).2; omega
    unfold endS
    rw [if_neg (fun z => ?_)]
    have := allB_iff.mp z w hw
    unfold schd at this
    rw [goS_nb hm _ _ _ rfl] at this
    cases this
  · intro hD
    obtain ⟨s, h, g1, g2⟩ := goS_fin hP.1 hH (pN P + 1) s0 0 ⟨fun w b h => (nomatch h), fun _ _ => rfl⟩ (Nat.lt_succ_of_le cntU_le)
    have hr := nx_none.mp g2
    suffices z : allB (schd P od) (pN P) = true by unfold endS; rw [if_pos z]; exact Option.some_ne_none _
    unfold schd
    rw [g1]
    refine allB_iff.mpr (Classical.byContradiction fun hno => ?_)
    obtain ⟨w, w1, w2, w3⟩ := least_no (p := fun w => (bgTo P od h (isEnd P s h) s (pN P) w).isSome) hno
    -- what began is over
    have ov : ∀ o, o < pN P → (bgTo P od h (isEnd P s h) s (pN P) o).isSome = true → isEnd P s h o = true := fun o ho h1 => by
      have := hr o ho
      unfold runs at this
      rw [h1] at this
      simpa using this
    obtain ⟨k, k1, k2⟩ := hP.surj w1
    have sub : ∀ o b, bgTo P od h (isEnd P s h) s k o = some b → bgTo P od h (isEnd P s h) s (pN P) o = some b := fun o b hb => by
      have := bgTo_mono hb (d := pN P - k)
      rw [show k + (pN P - k) = pN P by omega] at this
      exact this
    have nr : ∀ o, o < pN P → runs (bgTo P od h (isEnd P s h) s k) (isEnd P s h) o = false := fun o ho => by
      unfold runs
      cases hb : bgTo P od h (isEnd P s h) s k o with
      | none => rfl
      | some b => rw [ov o ho (by rw [sub o b hb]; rfl)]; rfl
    have u0 : ∀ m, m ≤ pN P → useTo P (bgTo P od h (isEnd P s h) s k) (isEnd P s h) m = 0 := fun m => by
      induction m with
      | zero => intro _; rfl
      | succ m ih => intro hm; rw [useTo, ih (by omega), nr m (by omega)]; rfl
    have hn : bgTo P od h (isEnd P s h) s k w = none := by
      cases hb : bgTo P od h (isEnd P s h) s k w with
      | none => rfl
      | some b => have := sub w b hb; rw [this] at w2; cases w2
    have hm : may P (bgTo P od h (isEnd P s h) s k) (isEnd P s h) w = true := by
      rw [may_iff, okTo_iff, u0 _ (Nat.le_refl _)]
      refine ⟨fun o ho => ⟨fun ha => ov o ho (w3 o (hA w o w1 ha)), fun q => ?_⟩, by have := hD w w1; omega⟩
      rw [nr o ho] at q
      exact absurd q.1 (by decide)
    have : bgTo P od h (isEnd P s h) s (k + 1) w = some h := by
      rw [bgTo_s, k2, stB_yes ⟨hn, hm⟩]
      unfold sup
      rw [if_pos rfl]
    have := bgTo_mono this (d := pN P - (k + 1))
    rw [show k + 1 + (pN P - (k + 1)) = pN P by omega] at this
    rw [this] at w2
    cases w2
