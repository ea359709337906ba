theorem WC_hr {P : Pb} {M N : Mem} {r r2 : Nat} {H2 : Nat → Nat} (h : WC P M r) (e : ∀ a b, (a = 2 ∧ (b = 3 ∨ b = 5)) ∨ (17 ≤ a ∧ a < 33) → N a b = M a b) (hh : ∀ w, w < pN P → N (r2 + 55) w = nI (H2 w) ∧ 1 ≤ H2 w ∧ H2 w ≤ 40) : WC (P.1, H2, P.2.2) N r2 := by
  obtain ⟨h1, h2, h3, h4, h5⟩ := h
  refine ⟨by rw [e 2 3 (by omega)]; exact h1, h2, by rw [e 2 5 (by omega)]; exact h3, h4, fun w hw => ?_⟩
  have hw : w < pN P := hw
  obtain ⟨g1, g2, g3, g4, g5, g6, g7⟩ := h5 w hw
  exact ⟨by rw [e (w + 17) 3 (by omega)]; exact g1, g2, by rw [e (w + 17) 6 (by omega)]; exact g3, g4, by rw [e (w + 17) 5 (by omega)]; exact g5, (hh w hw).1, (hh w hw).2.1, (hh w hw).2.2⟩
theorem WM_hr {P : Pb} {M N : Mem} {r r2 : Nat} {H2 : Nat → Nat} (h : WM P M r) (e : ∀ a b, (a = 99 ∧ (b = 14 ∨ b = 15)) ∨ (101 ≤ a ∧ a ≤ 106) → N a b = M a b) (hh : ∀ w, w < pN P → hrM N r2 w = nI (H2 w) ∧ 1 ≤ H2 w ∧ H2 w ≤ 40) : WM (P.1, H2, P.2.2) N r2 := by
  obtain ⟨h1, h2, h3, h4, h5⟩ := h
  refine ⟨by rw [e 99 14 (by omega)]; exact h1, h2, by rw [e 99 15 (by omega)]; exact h3, h4, fun w hw => ?_⟩
  have hw : w < pN P := hw
  obtain ⟨g1, g2, g3, g4, g5, g6, g7⟩ := h5 w hw
  exact ⟨by rw [e 104 w (by omega)]; exact g1, g2, by rw [e 103 w (by omega)]; exact g3, g4, by rw [e 106 w (by omega)]; exact g5, (hh w hw).1, (hh w hw).2.1, (hh w hw).2.2⟩
set_option maxHeartbeats 8000000 in
theorem op_draw {l : Launch} {E : EnT} (hst : l.stackTraces = false) {M : Mem} (h : Inv M) : OpV l E mX6_draw mX7_draw 2 0 [] M := by
  obtain ⟨hT, h2, hL, ⟨c, c1, c2, c3, c4⟩, hY, B, od, bk, dr, hW⟩ := id h
  obtain ⟨g1, g2, g3, g4, g5, g6, g7, g8, g9, g10, g11, kc, k1, k2, k3, k4⟩ := id hW
  have w0 := g4 0 (by omega)
  have w1 := g4 1 (by omega)
  have h16 : B.1 ≤ 16 := w0.1.2.1
  have a0 : ∀ w, w < B.1 → M 101 w = nI (B.2.1 0 w) ∧ 1 ≤ B.2.1 0 w ∧ B.2.1 0 w ≤ 40 := fun w hw => (w0.2.2.2.2.2 w hw).2.2.2.2.2
  have a1 : ∀ w, w < B.1 → M 102 w = nI (B.2.1 1 w) ∧ 1 ≤ B.2.1 1 w ∧ B.2.1 1 w ≤ 40 := fun w hw => (w1.2.2.2.2.2 w hw).2.2.2.2.2
  have b0 : ∀ w, w < B.1 → M (w + 17) 0 = M 101 w := fun w hw => g8 w hw 0 (by decide)
  have b1 : ∀ w, w < B.1 → M (w + 17) 1 = M 102 w := fun w hw => g8 w hw 1 (by decide)
  have pos : ∀ w, w < B.1 → 0 < M 102 w - M 101 w + 1 := fun w hw => by
    have := g11 w hw
    have := (a1 w hw).2.2
    rw [(a0 w hw).1, (a1 w hw).1, pk_sub (g11 w hw), nI_1]
    exact nI_lt (a := 0) (by omega) (by omega)
  have c6 := c_X6_draw (E := E) hst M B.1 dr c w0.1.1 h16 g2 g1 c2 c1 (fun w hw => by rw [b0 w hw, b1 w hw]; exact pos w hw)
  unfold drwC at c6
  by_cases h20 : dr = 20
  · rw [if_pos h20] at c6
    have c7 := c_X7_draw (E := E) hst M B.1 dr c w0.2.1 h16 g3 g1 c3 c1 pos
    unfold drwM at c7
    rw [if_pos h20] at c7
    exact OpV_Rt c6 c7 rfl h.m0
  · rw [if_neg h20] at c6
    by_cases hcn : c < B.1
    · rw [if_pos hcn] at c6
      have c7 := c_X7_draw (E := E) hst M B.1 dr c w0.2.1 h16 g3 g1 c3 c1 pos
      unfold drwM at c7
      rw [if_neg h20, if_pos hcn] at c7
      exact OpV_Rt c6 c7 rfl h.m0
    · rw [if_neg hcn] at c6
      -- the new row
      have hd : ∀ w, w < B.1 → ∃ x, 1 ≤ x ∧ x ≤ 40 ∧ dhr (M 101 w) (M 102 w) (M 109 w) = nI x := fun w hw => by
        obtain ⟨x, x1, x2, x3⟩ := dhr_ok (z := M 109 w) (g11 w hw) (a1 w hw).2.2
        rw [(a0 w hw).1, (a1 w hw).1]
        exact ⟨x, by have := (a0 w hw).2.1; omega, by have := (a1 w hw).2.2; omega, x3⟩
      have hv : ∀ w, w < B.1 → dhr (M 101 w) (M 102 w) (M 109 w) = nI (dhr (M 101 w) (M 102 w) (M 109 w)).toNatClampNeg ∧ 1 ≤ (dhr (M 101 w) (M 102 w) (M 109 w)).toNatClampNeg ∧ (dhr (M 101 w) (M 102 w) (M 109 w)).toNatClampNeg ≤ 40 := fun w hw => by
        obtain ⟨x, x1, x2, x3⟩ := hd w hw
        rw [x3, nI_clamp (by omega)]
        exact ⟨rfl, x1, x2⟩
      have eF : fil (mu M 0 5 0) (dr + 57) 0 B.1 (fun w => dhr (M (w + 17) 0) (M (w + 17) 1) (M 5 w)) = fil (mu M 0 5 0) (dr + 57) 0 B.1 (fun w => dhr (M 101 w) (M 102 w) (M 109 w)) := fil_cg (fun w hw => by rw [b0 w hw, b1 w hw, c4 w (by omega)])
      rw [eF] at c6
      simp only at c6
      generalize hN : mu (fil (mu M 0 5 0) (dr + 57) 0 B.1 (fun w => dhr (M 101 w) (M 102 w) (M 109 w))) 2 4 (nI (dr + 1)) = N at c6
      have hNo : ∀ a b, ¬ (a = 2 ∧ b = 4) → a ≠ dr + 57 → ¬ (a = 0 ∧ b = 5) → N a b = M a b := fun a b z1 z2 z3 => by
        rw [← hN, mu_at]
        by_cases q : a = 2
        · subst q
          rw [if_pos rfl, if_neg (fun y => z1 ⟨rfl, y⟩), fil_o (by omega)]
          rfl
        · rw [if_neg q, fil_o z2, mu_at]
          by_cases q2 : a = 0
          · subst q2
            rw [if_pos rfl, if_neg (fun y => z3 ⟨rfl, y⟩)]
          · rw [if_neg q2]
      have hNr : ∀ w, w < B.1 → N (dr + 57) w = dhr (M 101 w) (M 102 w) (M 109 w) := fun w hw => by
        rw [← hN, mu_o (by omega), fil_i (Nat.zero_le _) (by omega), Nat.sub_zero]
      have hN24 : N 2 4 = nI (dr + 1) := by rw [← hN]; rfl
      have hN05 : N 0 5 = 0 := by rw [← hN, mu_o (by decide), fil_o (by omega)]; rfl
      have c7 := c_X7_draw (E := E) hst N B.1 dr c (by rw [hNo 99 14 (by omega) (by omega) (by omega)]; exact w0.2.1) h16 (by rw [hNo 99 20 (by omega) (by omega) (by omega)]; exact g3) g1 (by rw [hNo 99 19 (by omega) (by omega) (by omega)]; exact c3) c1 (fun w hw => by rw [hNo 102 w (by omega) (by omega) (by omega), hNo 101 w (by omega) (by omega) (by omega)]; exact pos w hw)
      unfold drwM at c7
      rw [if_neg h20, if_neg hcn] at c7
      have eG : fil (mu N 99 0 0) 110 (16 * dr) B.1 (fun w => dhr (N 101 w) (N 102 w) (N 109 w)) = fil (mu N 99 0 0) 110 (16 * dr) B.1 (fun w => dhr (M 101 w) (M 102 w) (M 109 w)) := fil_cg (fun w hw => by rw [hNo 102 w (by omega) (by omega) (by omega), hNo 101 w (by omega) (by omega) (by omega), hNo 109 w (by omega) (by omega) (by omega)])
      rw [eG] at c7
      simp only at c7
      generalize hN2 : mu (mu (fil (mu N 99 0 0) 110 (16 * dr) B.1 (fun w => dhr (M 101 w) (M 102 w) (M 109 w))) 99 19 0) 99 20 (nI (dr + 1)) = N2 at c7
      refine OpV_Rt c6 c7 rfl ?_
      have h2o : ∀ a b, ¬ (a = 99 ∧ (b = 0 ∨ b = 19 ∨ b = 20)) → a ≠ 110 → N2 a b = N a b := fun a b z1 z2 => by
        rw [← hN2, mu_at]
        by_cases q : a = 99
        · subst q
          rw [if_pos rfl, if_neg (fun y => z1 ⟨rfl, by omega⟩), mu_at, if_pos rfl, if_neg (fun y => z1 ⟨rfl, by omega⟩), fil_o (by decide), mu_at, if_pos rfl, if_neg (fun y => z1 ⟨rfl, by omega⟩)]
        · rw [if_neg q, mu_o q, fil_o z2, mu_o q]
      have hA : ∀ a b, ¬ (a = 99 ∧ (b = 0 ∨ b = 19 ∨ b = 20)) → a ≠ 110 → ¬ (a = 2 ∧ b = 4) → a ≠ dr + 57 → ¬ (a = 0 ∧ b = 5) → N2 a b = M a b := fun a b z1 z2 z3 z4 z5 => by rw [h2o a b z1 z2, hNo a b z3 z4 z5]
      have m110 : ∀ i, N2 110 i = if 16 * dr ≤ i ∧ i < 16 * dr + B.1 then dhr (M 101 (i - 16 * dr)) (M 102 (i - 16 * dr)) (M 109 (i - 16 * dr)) else M 110 i := fun i => by
        rw [← hN2, mu_o (by decide), mu_o (by decide)]
        by_cases q : 16 * dr ≤ i ∧ i < 16 * dr + B.1
        · rw [if_pos q, fil_i q.1 q.2]
        · rw [if_neg q, fil_x (by omega), mu_o (by decide)]
          exact hNo 110 i (by omega) (by omega) (by omega)
      have m20 : N2 99 20 = nI (dr + 1) := by rw [← hN2]; rfl
      have m19 : N2 99 19 = 0 := by rw [← hN2]; rfl
      obtain ⟨t, t1, t2, t3, t4⟩ := hT
      obtain ⟨lim, l1, l2, l3⟩ := hL
      obtain ⟨T, D, y1, y2, y3, y4, y5, y6, y7⟩ := hY
      refine ⟨⟨t, t1, by rw [hA 1 1 (by omega) (by omega) (by omega) (by omega) (by omega)]; exact t2, by rw [hA 99 2 (by omega) (by omega) (by omega) (by omega) (by omega)]; exact t3, fun i hi => by rw [hA 7 i (by omega) (by omega) (by omega) (by omega) (by omega), hA 100 i (by omega) (by omega) (by omega) (by omega) (by omega)]; exact t4 i hi⟩, by rw [hA 1 2 (by omega) (by omega) (by omega) (by omega) (by omega), hA 99 6 (by omega) (by omega) (by omega) (by omega) (by omega)]; exact h2, ⟨lim, l1, by rw [hA 0 6 (by omega) (by omega) (by omega) (by omega) (by omega)]; exact l2, by rw [hA 99 16 (by omega) (by omega) (by omega) (by omega) (by omega)]; exact l3⟩, ⟨0, by decide, by rw [h2o 0 5 (by omega) (by omega), hN05]; rfl, by rw [m19]; rfl, fun i hi => by rw [hA 5 i (by omega) (by omega) (by omega) (by omega) (by omega), hA 109 i (by omega) (by omega) (by omega) (by omega) (by omega)]; exact c4 i hi⟩, ⟨T, D, y1, y2, by rw [hA 4 0 (by omega) (by omega) (by omega) (by omega) (by omega)]; exact y3, by rw [hA 99 30 (by omega) (by omega) (by omega) (by omega) (by omega)]; exact y4, by rw [hA 4 1 (by omega) (by omega) (by omega) (by omega) (by omega)]; exact y5, by rw [hA 99 31 (by omega) (by omega) (by omega) (by omega) (by omega)]; exact y6, fun i hi => by rw [hA 14 i (by omega) (by omega) (by omega) (by omega) (by omega), hA 15 i (by omega) (by omega) (by omega) (by omega) (by omega), hA 16 i (by omega) (by omega) (by omega) (by omega) (by omega), hA 116 i (by omega) (by omega) (by omega) (by omega) (by omega), hA 117 i (by omega) (by omega) (by omega) (by omega) (by omega), hA 118 i (by omega) (by omega) (by omega) (by omega) (by omega)]; exact y7 i hi⟩, (B.1, fun r w => if r = dr + 2 then (dhr (M 101 w) (M 102 w) (M 109 w)).toNatClampNeg else B.2.1 r w, B.2.2), od, bk, dr + 1, by omega, by rw [h2o 2 4 (by omega) (by omega)]; exact hN24, m20, fun r hr => ⟨?_, ?_⟩, g5, fun k hk => ?_, g7, fun w hw i hi => ?_, fun w hw => ?_, g10, fun w hw => ?_, kc, ?_, k2, ?_, fun q => ?_⟩
      · refine WC_hr (P := rowP B 0) (r := 0) w0.1 (fun a b z => hA a b (by omega) (by omega) (by omega) (by omega) (by omega)) (fun w hw => ?_)
        have hw : w < B.1 := hw
        by_cases q : r = dr + 2
        · subst q
          simp only [if_true]
          rw [h2o _ _ (by omega) (by omega), show dr + 2 + 55 = dr + 57 by omega, hNr w hw]
          exact hv w hw
        · simp only [if_neg q]
          rw [hA _ _ (by omega) (by omega) (by omega) (by omega) (by omega)]
          exact ((g4 r (by omega)).1.2.2.2.2 w hw).2.2.2.2.2
      · refine WM_hr (P := rowP B 0) (r := 0) w0.2 (fun a b z => hA a b (by omega) (by omega) (by omega) (by omega) (by omega)) (fun w hw => ?_)
        have hw : w < B.1 := hw
        by_cases q : r = dr + 2
        · subst q
          simp only [if_true]
          unfold hrM
          rw [if_neg (by omega), if_neg (by omega), m110, if_pos (by omega), show 16 * (dr + 2 - 2) + w - 16 * dr = w by omega]
          exact hv w hw
        · simp only [if_neg q]
          have e : hrM N2 r w = hrM M r w := by
            unfold hrM
            rw [hA 101 w (by omega) (by omega) (by omega) (by omega) (by omega), hA 102 w (by omega) (by omega) (by omega) (by omega) (by omega)]
            by_cases r0 : r = 0
            · rw [if_pos r0, if_pos r0]
            · rw [if_neg r0, if_neg r0]
              by_cases r1 : r = 1
              · rw [if_pos r1, if_pos r1]
              · rw [if_neg r1, if_neg r1, m110, if_neg (by omega)]
          rw [e]
          exact ((g4 r (by omega)).2.2.2.2.2 w hw).2.2.2.2.2
      · have hk : k < B.1 := hk
        rw [hA 9 k (by omega) (by omega) (by omega) (by omega) (by omega), hA 107 k (by omega) (by omega) (by omega) (by omega) (by omega)]; exact g6 k hk
      · have hw : w < B.1 := hw
        rw [hA (w + 17) i (by omega) (by omega) (by omega) (by omega) (by omega), hA (101 + i) w (by omega) (by omega) (by omega) (by omega) (by omega)]; exact g8 w hw i hi
      · rw [hA 105 w (by omega) (by omega) (by omega) (by omega) (by omega)]; exact g9 w hw
      · exact g11 w hw
      · rw [hA 3 5 (by omega) (by omega) (by omega) (by omega) (by omega)]; exact k1
      · rw [hA 3 4 (by omega) (by omega) (by omega) (by omega) (by omega)]; exact k3
      · rw [hA 3 4 (by omega) (by omega) (by omega) (by omega) (by omega)] at q
        obtain ⟨f, f1, f2, f3⟩ := k4 q
        refine ⟨f, ?_, by rw [hA 3 1 (by omega) (by omega) (by omega) (by omega) (by omega)]; exact f2, fun k hk => by rw [hA 12 k (by omega) (by omega) (by omega) (by omega) (by omega)]; exact f3 k hk⟩
        exact f1
