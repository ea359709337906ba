/-! what a text that is read tells -/
def DOk (wn : Nat) (D : Dr) : Prop := D.2.2.1 ≤ 3 ∧ D.2.2.2.1 ≤ 30 ∧ (∀ x, D.2.2.2.2.1 = some x → x ≤ 40) ∧ ∀ i, D.2.2.2.2.2 i = true → i < wn
def HOk (D : Dr) : Prop := 1 ≤ D.1 ∧ D.1 ≤ D.2.1 ∧ D.2.1 ≤ 40
theorem aft_D {b : Nat → Nat} {n wn : Nat} : ∀ {f a e : Nat} {D D2 : Dr}, a ≤ n → aftS b n wn f a D = .inr (e, D2) → DOk wn D → DOk wn D2 ∧ D2.1 = D.1 ∧ D2.2.1 = D.2.1
  | 0, a, e, D, D2, han, h, hD => by cases h; exact ⟨hD, rfl, rfl⟩
  | f + 1, a, e, D, D2, han, h, hD => by
    rw [aftS] at h
    cases hn : numS b n a 0 wn with
    | inl x => rw [hn] at h; cases h
    | inr x =>
      obtain ⟨e1, V⟩ := x
      rw [hn] at h
      simp only at h
      obtain ⟨b1, b2, b3, b4⟩ := num_ok han hn
      have hD3 : DOk wn (D.1, D.2.1, D.2.2.1, D.2.2.2.1, D.2.2.2.2.1, fun i => D.2.2.2.2.2 i || decide (i = V)) := ⟨hD.1, hD.2.1, hD.2.2.1, fun i hi => by
        have hi : (D.2.2.2.2.2 i || decide (i = V)) = true := hi
        rw [Bool.or_eq_true, decide_eq_true_eq] at hi
        rcases hi with q | q
        · exact hD.2.2.2 i q
        · omega⟩
      split at h
      · have r := aft_D (run_le e1 b2) h hD3
        exact r
      · cases h; exact ⟨hD3, rfl, rfl⟩
theorem rest_D {b : Nat → Nat} {n wn c a e : Nat} {D D2 : Dr} (han : a ≤ n) (h : restS b n wn c a D = .inr (e, D2)) (hD : DOk wn D) : DOk wn D2 ∧ (c = 0 → HOk D2) ∧ (c ≠ 0 → D2.1 = D.1 ∧ D2.2.1 = D.2.1) := by
  unfold restS at h
  split at h
  · rename_i hc
    unfold hourS at h
    cases hn : numS b n a 1 41 with
    | inl x => rw [hn] at h; cases h
    | inr x =>
      obtain ⟨e1, V⟩ := x
      rw [hn] at h
      obtain ⟨b1, b2, b3, b4⟩ := num_ok han hn
      simp only at h
      cases hs : sgnS b n e1 45 with
      | inl x => rw [hs] at h; cases h
      | inr e2 =>
        rw [hs] at h
        obtain ⟨c1, c2⟩ := sgn_ok hs
        simp only at h
        cases hm : numS b n e2 V 41 with
        | inl x => rw [hm] at h; cases h
        | inr x =>
          obtain ⟨e3, V3⟩ := x
          rw [hm] at h
          obtain ⟨d1, d2, d3, d4⟩ := num_ok c2 hm
          cases h
          exact ⟨hD, fun _ => ⟨b3, d3, by show V3 ≤ 40; omega⟩, fun q => absurd hc q⟩
  · rename_i hc
    split at h
    · unfold thgS at h
      cases ht : thgW b n (run (isBl b) n a) with
      | none => rw [ht] at h; cases h
      | some t =>
        rw [ht] at h
        cases h
        refine ⟨⟨?_, hD.2.1, hD.2.2.1, hD.2.2.2⟩, fun q => absurd q hc, fun _ => ⟨rfl, rfl⟩⟩
        show t ≤ 3
        unfold thgW at ht
        split at ht
        · cases ht; decide
        · split at ht
          · cases ht; decide
          · split at ht
            · cases ht; decide
            · cases ht
    · split at h
      · unfold handS at h
        cases hn : numS b n a 0 31 with
        | inl x => rw [hn] at h; cases h
        | inr x =>
          obtain ⟨e1, V⟩ := x
          rw [hn] at h
          obtain ⟨b1, b2, b3, b4⟩ := num_ok han hn
          cases h
          exact ⟨⟨hD.1, by show V ≤ 30; omega, hD.2.2.1, hD.2.2.2⟩, fun q => absurd q hc, fun _ => ⟨rfl, rfl⟩⟩
      · split at h
        · unfold bckS at h
          cases hn : numS b n a 0 41 with
          | inl x => rw [hn] at h; cases h
          | inr x =>
            obtain ⟨e1, V⟩ := x
            rw [hn] at h
            obtain ⟨b1, b2, b3, b4⟩ := num_ok han hn
            cases h
            exact ⟨⟨hD.1, hD.2.1, fun x hx => by cases hx; omega, hD.2.2.2⟩, fun q => absurd q hc, fun _ => ⟨rfl, rfl⟩⟩
        · obtain ⟨q1, q2, q3⟩ := aft_D han h hD
          exact ⟨q1, fun q => absurd q hc, fun _ => ⟨q2, q3⟩⟩
theorem cl_D {b : Nat → Nat} {n wn a e : Nat} {rd rd2 : Nat → Bool} {D D2 : Dr} (han : a ≤ n) (h : clS b n wn a rd D = .inr (e, rd2, D2)) (hD : DOk wn D) (hH : rd 0 = true → HOk D) : (DOk wn D2 ∧ (rd2 0 = true → HOk D2)) ∧ e ≤ n := by
  unfold clS at h
  cases hc : clsW b n a with
  | none => rw [hc] at h; cases h
  | some c =>
    obtain ⟨z1, z2, z3, z4⟩ := cls_ok han hc
    rw [hc] at h
    simp only at h
    split at h
    · cases h
    · cases hr : restS b n wn c (a + wl8 c) D with
      | inl x => rw [hr] at h; cases h
      | inr x =>
        obtain ⟨e1, D3⟩ := x
        rw [hr] at h
        simp only at h
        obtain ⟨q1, q2, q3⟩ := rest_D z3 hr hD
        cases hs : sgnS b n e1 59 with
        | inl x => rw [hs] at h; cases h
        | inr e2 =>
          rw [hs] at h
          have hs2 := sgn_ok hs
          cases h
          refine ⟨⟨q1, fun q => ?_⟩, hs2.2⟩
          by_cases hc0 : c = 0
          · exact q2 hc0
          · have q : (rd 0 || decide (0 = c)) = true := q
            rw [decide_eq_false (fun z => hc0 z.symm), Bool.or_false] at q
            obtain ⟨p1, p2⟩ := q3 hc0
            have := hH q
            unfold HOk at this ⊢
            rw [p1, p2]; exact this
theorem rdL_D {b : Nat → Nat} {n wn : Nat} : ∀ {f a : Nat} {rd rd2 : Nat → Bool} {D D2 : Dr}, a ≤ n → rdL b n wn f a rd D = .inr (rd2, D2) → DOk wn D → (rd 0 = true → HOk D) → DOk wn D2 ∧ (rd2 0 = true → HOk D2)
  | 0, a, rd, rd2, D, D2, han, h, hD, hH => by cases h; exact ⟨hD, hH⟩
  | f + 1, a, rd, rd2, D, D2, han, h, hD, hH => by
    rw [rdL] at h
    split at h
    · cases hc : clS b n wn a rd D with
      | inl x => rw [hc] at h; cases h
      | inr x =>
        obtain ⟨e, rd3, D3⟩ := x
        rw [hc] at h
        obtain ⟨⟨q1, q2⟩, q3⟩ := cl_D han hc hD hH
        exact rdL_D (run_le e q3) h q1 q2
    · cases h; exact ⟨hD, hH⟩
theorem rdS_D {b : Nat → Nat} {n wn : Nat} {D : Dr} (h : rdS b n wn = .inr D) : DOk wn D ∧ HOk D := by
  unfold rdS at h
  cases hr : rdL b n wn (n + 1) (run (isBl b) n 0) (fun _ => false) D0 with
  | inl x => rw [hr] at h; cases h
  | inr x =>
    obtain ⟨rd, D2⟩ := x
    rw [hr] at h
    simp only at h
    have q := rdL_D (run_le 0 (Nat.zero_le n)) hr ⟨by decide, by decide, fun x hx => (nomatch hx), fun i hi => (nomatch hi)⟩ (fun q => (nomatch q))
    split at h
    · rename_i h0
      cases h
      exact ⟨q.1, q.2 h0⟩
    · cases h
