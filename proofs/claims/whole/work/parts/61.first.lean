/-! the first of the best orders -/
def e1N (B : Bw) (f : Nat → Nat) : Nat := (endS (rowP B 1) f).getD 0
def e0N (B : Bw) (f : Nat → Nat) : Nat := (endS (rowP B 0) f).getD 0
def ltK (a b c d : Nat) : Prop := a < c ∨ (a = c ∧ b < d)
abbrev OrS : Type := (Nat → Nat) → Prop
def Fst (B : Bw) (T : OrS) (f : Nat → Nat) : Prop := T f ∧ ∀ p, T p → ltK (e1N B f) (e0N B f) (e1N B p) (e0N B p) ∨ (e1N B f = e1N B p ∧ e0N B f = e0N B p ∧ ¬ ltP B.1 p f)
def CB (B : Bw) (T : OrS) (N : Mem) (c em el : Nat) : Prop := (100000 < em ∧ 100000 < el ∧ ∀ p, ¬ T p) ∨ ∃ f, Fst B T f ∧ em = e1N B f ∧ el = e0N B f ∧ ∀ k, k < B.1 → N c k = nI (f k)
theorem e1N_cg {B : Bw} {f g : Nat → Nat} (h : eqP B.1 f g) : e1N B f = e1N B g := by unfold e1N; rw [endS_eqP (P := rowP B 1) h]
theorem e0N_cg {B : Bw} {f g : Nat → Nat} (h : eqP B.1 f g) : e0N B f = e0N B g := by unfold e0N; rw [endS_eqP (P := rowP B 0) h]
theorem Fst_cg {B : Bw} {T T2 : OrS} {f : Nat → Nat} (h : Fst B T f) (he : ∀ p, T p ↔ T2 p) : Fst B T2 f := ⟨(he f).mp h.1, fun p hp => h.2 p ((he p).mpr hp)⟩
theorem CB_cg {B : Bw} {T T2 : OrS} {N N2 : Mem} {c em el : Nat} (h : CB B T N c em el) (he : ∀ p, T p ↔ T2 p) (hN : ∀ k, k < B.1 → N2 c k = N c k) : CB B T2 N2 c em el := by
  rcases h with ⟨h1, h2, h3⟩ | ⟨f, h1, h2, h3, h4⟩
  · exact Or.inl ⟨h1, h2, fun p hp => h3 p ((he p).mpr hp)⟩
  · exact Or.inr ⟨f, Fst_cg h1 he, h2, h3, fun k hk => by rw [hN k hk]; exact h4 k hk⟩
theorem CB_keep {B : Bw} {T T2 : OrS} {N N2 : Mem} {c em el : Nat} {t : Nat → Nat} (h : CB B T N c em el) (hT : ∀ p, T2 p ↔ (T p ∨ eqP B.1 p t)) (hL : ∀ p, T p → ltP B.1 p t) (hb : e1N B t ≤ 100000) (hK : em < e1N B t ∨ (em = e1N B t ∧ el ≤ e0N B t)) (hN : ∀ k, k < B.1 → N2 c k = N c k) : CB B T2 N2 c em el := by
  rcases h with ⟨h1, h2, h3⟩ | ⟨f, h1, h2, h3, h4⟩
  · omega
  · refine Or.inr ⟨f, ⟨(hT f).mpr (Or.inl h1.1), fun p hp => ?_⟩, h2, h3, fun k hk => by rw [hN k hk]; exact h4 k hk⟩
    rcases (hT p).mp hp with q | q
    · exact h1.2 p q
    · rw [e1N_cg q, e0N_cg q]
      have hnl : ¬ ltP B.1 p f := fun z => ltP_asy z (ltP_cgR (hL f h1.1) (fun k hk => (q k hk).symm))
      unfold ltK
      rcases hK with k | ⟨k1, k2⟩
      · exact Or.inl (Or.inl (by omega))
      · rcases Nat.lt_or_ge el (e0N B t) with z | z
        · exact Or.inl (Or.inr ⟨by omega, by omega⟩)
        · exact Or.inr ⟨by omega, by omega, hnl⟩
theorem CB_new {B : Bw} {T T2 : OrS} {N N2 : Mem} {c em el : Nat} {t : Nat → Nat} (h : CB B T N c em el) (hT : ∀ p, T2 p ↔ (T p ∨ eqP B.1 p t)) (hK : e1N B t < em ∨ (e1N B t = em ∧ e0N B t < el)) (hN : ∀ k, k < B.1 → N2 c k = nI (t k)) : CB B T2 N2 c (e1N B t) (e0N B t) := by
  refine Or.inr ⟨t, ⟨(hT t).mpr (Or.inr (fun _ _ => rfl)), fun p hp => ?_⟩, rfl, rfl, hN⟩
  rcases (hT p).mp hp with q | q
  · rcases h with ⟨h1, h2, h3⟩ | ⟨f, h1, h2, h3, h4⟩
    · exact absurd q (h3 p)
    · have := h1.2 p q
      unfold ltK at this ⊢
      rcases this with z | ⟨z1, z2, _⟩ <;> exact Or.inl (by omega)
  · exact Or.inr ⟨(e1N_cg q).symm, (e0N_cg q).symm, fun z => ltP_irr z q⟩
/-- an order with neighbours that stand so without need -/
def Ndl (B : Bw) (p : Nat → Nat) : Prop := ∃ i, i + 1 < B.1 ∧ p (i + 1) < p i ∧ NL (rowP B 1) (p i) (p (i + 1))
theorem Ndl_cg {B : Bw} {f g : Nat → Nat} (h : eqP B.1 f g) (hf : Ndl B f) : Ndl B g := by
  obtain ⟨i, h1, h2, h3⟩ := hf
  exact ⟨i, h1, by rw [← h i (by omega), ← h (i + 1) h1]; exact h2, by rw [← h i (by omega), ← h (i + 1) h1]; exact h3⟩
theorem Pm_cg {n : Nat} {f g : Nat → Nat} (h : eqP n f g) (hf : Pm n f) : Pm n g := ⟨fun k hk => by rw [← h k hk]; exact hf.1 k hk, fun i j hi hj he => hf.2 i j hi hj (by rw [h i hi, h j hj]; exact he)⟩
theorem Fst_all {B : Bw} {f : Nat → Nat} (h7 : B.1 ≤ 7) (h : Fst B (fun p => Pm B.1 p ∧ ¬ Ndl B p) f) : Fst B (Pm B.1) f := by
  refine ⟨h.1.1, ?_⟩
  have key : ∀ (c : Nat) (p : Nat → Nat), cod8 p B.1 < c → Pm B.1 p → ltK (e1N B f) (e0N B f) (e1N B p) (e0N B p) ∨ (e1N B f = e1N B p ∧ e0N B f = e0N B p ∧ ¬ ltP B.1 p f) := by
    intro c
    induction c with
    | zero => intro p hp; exact absurd hp (Nat.not_lt_zero _)
    | succ c ih =>
      intro p hp hP
      by_cases hn : Ndl B p
      · obtain ⟨i, h1, h2, h3⟩ := hn
        have hq := Pm_swp hP h1
        have hlt : ltP B.1 (swp p i) p := ⟨i, by omega, fun j hj => swp_o (by omega) (by omega), by rw [swp_0]; exact h2⟩
        have hc := cod8_lt (hq.lt8 h7) hlt
        have e1 : e1N B p = e1N B (swp p i) := by unfold e1N; rw [end_sw (P := rowP B 1) h1 (hP.1 i (by omega)) (hP.1 (i + 1) h1) (by omega) h3]
        have e0 : e0N B p = e0N B (swp p i) := by unfold e0N; rw [end_sw (P := rowP B 0) h1 (hP.1 i (by omega)) (hP.1 (i + 1) h1) (by omega) h3]
        rw [e1, e0]
        rcases ih (swp p i) (by omega) hq with z | ⟨z1, z2, z3⟩
        · exact Or.inl z
        · exact Or.inr ⟨z1, z2, fun z => z3 (ltP_tr hlt z)⟩
      · exact h.2 p ⟨hP, hn⟩
  exact fun p hp => key _ p (Nat.lt_succ_self _) hp
theorem Fst_uniq {B : Bw} {f g : Nat → Nat} {T : OrS} (hf : Fst B T f) (hg : Fst B T g) : eqP B.1 f g ∧ e1N B f = e1N B g := by
  have a := hf.2 g hg.1
  have b := hg.2 f hf.1
  unfold ltK at a b
  rcases a with a | ⟨a1, a2, a3⟩
  · omega
  · rcases b with b | ⟨b1, b2, b3⟩
    · omega
    · rcases triP f g B.1 with z | z | z
      · exact absurd z b3
      · exact ⟨z, a1⟩
      · exact absurd z a3
