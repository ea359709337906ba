/-- the order changes, and else nothing that is looked at -/
theorem Inv_ord {M N : Mem} {B : Bw} {od od2 : Nat → Nat} {bk : Nat → Option Nat} {dr : Nat} (h : Inv M) (hW : InW B od bk dr M) (hA : ∀ a b, a ≠ 9 → a ≠ 107 → ¬ Scr a b → N a b = M a b) (hP : Pm B.1 od2) (h9 : ∀ k, k < B.1 → N 9 k = nI (od2 k) ∧ N 107 k = nI (od2 k)) : Inv N := by
  obtain ⟨⟨t, t1, t2, t3, t4⟩, h2, ⟨lim, l1, l2, l3⟩, ⟨c, c1, c2, c3, c4⟩, ⟨T, D, y1, y2, y3, y4, y5, y6, y7⟩, _⟩ := h
  obtain ⟨g1, g2, g3, g4, g5, g6, g7, g8, g9, g10, g11, kc, k1, k2, k3, k4⟩ := hW
  have h16 : B.1 ≤ 16 := (g4 0 (by omega)).1.2.1
  have e3 : ∀ a b, Swk a b → N a b = M a b := fun a b z => hA a b (by unfold Swk at z; omega) (by unfold Swk at z; omega) (fun y => by unfold Swk at z; unfold Scr at y; omega)
  have e4 : ∀ a b, a ≠ 9 → a ≠ 107 → ¬ Scr a b → N a b = M a b := hA
  refine ⟨⟨t, t1, by rw [hA 1 1 (by decide) (by decide) (by unfold Scr; omega)]; exact t2, by rw [hA 99 2 (by decide) (by decide) (by unfold Scr; omega)]; exact t3, fun i hi => by rw [hA 7 i (by decide) (by decide) (by unfold Scr; omega), hA 100 i (by decide) (by decide) (by unfold Scr; omega)]; exact t4 i hi⟩, by rw [hA 1 2 (by decide) (by decide) (by unfold Scr; omega), hA 99 6 (by decide) (by decide) (by unfold Scr; omega)]; exact h2, ⟨lim, l1, by rw [hA 0 6 (by decide) (by decide) (by unfold Scr; omega)]; exact l2, by rw [hA 99 16 (by decide) (by decide) (by unfold Scr; omega)]; exact l3⟩, ⟨c, c1, by rw [hA 0 5 (by decide) (by decide) (by unfold Scr; omega)]; exact c2, by rw [hA 99 19 (by decide) (by decide) (by unfold Scr; omega)]; exact c3, fun i hi => by rw [hA 5 i (by decide) (by decide) (by unfold Scr; omega), hA 109 i (by decide) (by decide) (by unfold Scr; omega)]; exact c4 i hi⟩, ⟨T, D, y1, y2, by rw [hA 4 0 (by decide) (by decide) (by unfold Scr; omega)]; exact y3, by rw [hA 99 30 (by decide) (by decide) (by unfold Scr; omega)]; exact y4, by rw [hA 4 1 (by decide) (by decide) (by unfold Scr; omega)]; exact y5, by rw [hA 99 31 (by decide) (by decide) (by unfold Scr; omega)]; exact y6, fun i hi => by rw [hA 14 i (by decide) (by decide) (by unfold Scr; omega), hA 15 i (by decide) (by decide) (by unfold Scr; omega), hA 16 i (by decide) (by decide) (by unfold Scr; omega), hA 116 i (by decide) (by decide) (by unfold Scr; omega), hA 117 i (by decide) (by decide) (by unfold Scr; omega), hA 118 i (by decide) (by decide) (by unfold Scr; omega)]; exact y7 i hi⟩, B, od2, bk, dr, ?_⟩
  refine ⟨g1, by rw [hA 2 4 (by decide) (by decide) (by unfold Scr; omega)]; exact g2, by rw [hA 99 20 (by decide) (by decide) (by unfold Scr; omega)]; exact g3, fun r hr => ⟨(g4 r hr).1.keepW (by omega) e3, (g4 r hr).2.keepW e3⟩, hP, h9, g7, fun w hw i hi => by rw [e3 (w + 17) i (by unfold Swk; omega), e3 (101 + i) w (by unfold Swk; omega)]; exact g8 w hw i hi, fun w hw => by rw [e3 105 w (by unfold Swk; omega)]; exact g9 w hw, g10, g11, kc, by rw [hA 3 5 (by decide) (by decide) (by unfold Scr; omega)]; exact k1, k2, by rw [hA 3 4 (by decide) (by decide) (by unfold Scr; omega)]; exact k3, fun q => ?_⟩
  rw [hA 3 4 (by decide) (by decide) (by unfold Scr; omega)] at q
  exact Kn_keep (k4 q) (hA 3 1 (by decide) (by decide) (by unfold Scr; omega)) (fun k _ => hA 12 k (by decide) (by decide) (by unfold Scr; omega))
def sgm (p k : Nat) : Nat → Nat := fun i => if i = k then p else if p ≤ i ∧ i < k then i + 1 else if k < i ∧ i ≤ p then i - 1 else i
theorem sgm_lt {n p k i : Nat} (hp : p < n) (hk : k < n) (hi : i < n) : sgm p k i < n := by
  unfold sgm; split
  · exact hp
  · split
    · omega
    · split <;> omega
theorem sgm_inj {p k i j : Nat} (h : sgm p k i = sgm p k j) : i = j := by
  unfold sgm at h
  split at h <;> split at h <;> (try omega) <;> (try (split at h <;> try omega)) <;> (try (split at h <;> try omega)) <;> (try (split at h <;> try omega)) <;> (try (split at h <;> try omega))
theorem mvN_od {f : Nat → Int32} {od : Nat → Nat} {n p k i : Nat} (hf : ∀ i, i < n → f i = nI (od i)) (hp : p < n) (hk : k < n) (hi : i < n) : mvN f (nI (od p)) p k i = nI (od (sgm p k i)) := by
  unfold mvN sgm
  split
  · rfl
  · split
    · rw [hf (i + 1) (by omega)]
    · split
      · rw [hf (i - 1) (by omega)]
      · exact hf i hi
set_option maxHeartbeats 4000000 in
theorem op_move {l : Launch} {E : EnT} (hst : l.stackTraces = false) {M : Mem} (h : Inv M) (w k : Int32) : OpX l E mX6_move mX7_move 6 1 [.int w, .int k] (fun C => C = xIO ∨ C = xIA) kL_move M := by
  obtain ⟨B, od, bk, dr, hW⟩ := h.2.2.2.2.2
  have w0 := hW.2.2.2.1 0 (by omega)
  have h16 : B.1 ≤ 16 := w0.1.2.1
  have hP := hW.2.2.2.2.1
  have h9 := hW.2.2.2.2.2.1
  have ps : ∀ f : Nat → Int32, (∀ i, i < B.1 → f i = nI (od i)) → ∀ p, p < B.1 → posN f (nI (od p)) B.1 = p := fun f hf p hp => posN_of hp (hf p hp) (fun i hi e => by
    rw [hf i (by omega)] at e
    have := hP.1 i (by omega)
    have := hP.1 p hp
    have := hP.2 i p (by omega) hp ((nI_eq (by omega) (by omega)).mp e)
    omega)
  have hp6 : ∀ f : Nat → Int32, (∀ i, i < B.1 → f i = nI (od i)) → ∀ j, j < B.1 → posN f (nI j) B.1 < B.1 := fun f hf j hj => by
    obtain ⟨p, hp, e⟩ := hP.surj hj
    rw [← e, ps f hf p hp]; exact hp
  have hu : ∀ f : Nat → Int32, (∀ i, i < B.1 → f i = nI (od i)) → ∀ a b, a < B.1 → b < B.1 → f a = f b → a = b := fun f hf a b ha hb e => by
    rw [hf a ha, hf b hb] at e
    have := hP.1 a ha
    have := hP.1 b hb
    exact hP.2 a b ha hb ((nI_eq (by omega) (by omega)).mp e)
  have f9 : ∀ i, i < B.1 → M 9 i = nI (od i) := fun i hi => (h9 i hi).1
  have f107 : ∀ i, i < B.1 → M 107 i = nI (od i) := fun i hi => (h9 i hi).2
  have c6 := c_X6_move (E := E) hst w k M B.1 w0.1.1 h16 (hp6 _ f9)
  unfold movC at c6
  rcases ixB_cases w (n := B.1) (by omega) with ⟨hb, _⟩ | ⟨j, hj, rfl, hb⟩
  · rw [hb] at c6
    have c7 := c_X7_move (E := E) hst w k M B.1 w0.2.1 h16 (hp6 _ f107) (hu _ f107)
    unfold movM at c7
    rw [hb] at c7
    exact OpX_t c6 (Or.inl rfl) c7 rfl h.mk0
  · rw [hb] at c6
    rcases ixB_cases k (n := B.1) (by omega) with ⟨hk, _⟩ | ⟨i, hi, rfl, hk⟩
    · rw [hk] at c6
      have c7 := c_X7_move (E := E) hst (nI j) k M B.1 w0.2.1 h16 (hp6 _ f107) (hu _ f107)
      unfold movM at c7
      rw [hb, hk] at c7
      exact OpX_t c6 (Or.inr rfl) c7 rfl h.mk0
    · rw [hk, nI_clamp (by omega)] at c6
      obtain ⟨p, hp, e⟩ := hP.surj hj
      subst e
      rw [ps _ f9 p hp] at c6
      simp only [if_true] at c6
      have g107 : ∀ x, x < B.1 → mu (mcu M 9 (mvN (M 9) (nI (od p)) p i)) 119 0 (nI p) 107 x = nI (od x) := f107
      have c7 := c_X7_move (E := E) hst (nI (od p)) (nI i) (mu (mcu M 9 (mvN (M 9) (nI (od p)) p i)) 119 0 (nI p)) B.1 w0.2.1 h16 (hp6 _ g107) (hu _ g107)
      unfold movM at c7
      rw [hb, hk, nI_clamp (by omega), ps _ g107 p hp] at c7
      simp only [if_true] at c7
      refine OpX_i c6 c7 rfl rfl ?_
      refine Inv_ord (od2 := fun x => od (sgm p i x)) h hW (fun a b z1 z2 z3 => ?_) ⟨fun x hx => hP.1 _ (sgm_lt hp hi hx), fun x y hx hy z => sgm_inj (hP.2 _ _ (sgm_lt hp hi hx) (sgm_lt hp hi hy) z)⟩ (fun x hx => ⟨?_, ?_⟩)
      · rw [mcu_o z2, fil_o (fun q => z3 (by subst q; unfold Scr; omega)), mu_at]
        by_cases q : a = 99
        · subst q
          rw [if_pos rfl, if_neg (fun q2 => z3 (by subst q2; unfold Scr; omega))]
          rfl
        · rw [if_neg q, mu_o (fun q2 => z3 (by subst q2; unfold Scr; omega)), mcu_o z1]
      · show mvN (M 9) (nI (od p)) p i x = _
        exact mvN_od f9 hp hi hx
      · rw [mcu_k, if_pos hx]
        exact mvN_od g107 hp hi hx
