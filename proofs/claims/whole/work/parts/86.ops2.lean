/-- what the works do not look at -/
def Sno (a b : Nat) : Prop := Scr a b ∨ a = 5 ∨ a = 0 ∨ a = 109 ∨ a = 7 ∨ a = 100 ∨ a = 4 ∨ (14 ≤ a ∧ a < 17) ∨ (116 ≤ a ∧ a < 119) ∨ (a = 1) ∨ (a = 99 ∧ (b = 2 ∨ b = 6 ∨ b = 16 ∨ b = 19 ∨ b = 30 ∨ b = 31))
theorem WC.keepX {P : Pb} {M N : Mem} {r : Nat} (h : WC P M r) (hr : r < 22) (he : Eqx Sno M N) : WC P N r := by
  obtain ⟨h1, h2, h3, h4, h5⟩ := h
  refine ⟨by rw [he 2 3 (by unfold Sno Scr; omega)]; exact h1, h2, by rw [he 2 5 (by unfold Sno Scr; omega)]; exact h3, h4, fun w hw => ?_⟩
  obtain ⟨g1, g2, g3, g4, g5, g6, g7⟩ := h5 w hw
  exact ⟨by rw [he (w + 17) 3 (by unfold Sno Scr; omega)]; exact g1, g2, by rw [he (w + 17) 6 (by unfold Sno Scr; omega)]; exact g3, g4, by rw [he (w + 17) 5 (by unfold Sno Scr; omega)]; exact g5, by rw [he (r + 55) w (by unfold Sno Scr; omega)]; exact g6, g7⟩
theorem WM.keepX {P : Pb} {M N : Mem} {r : Nat} (h : WM P M r) (he : Eqx Sno M N) : WM P N r := by
  obtain ⟨h1, h2, h3, h4, h5⟩ := h
  have hh : ∀ w, hrM N r w = hrM M r w := fun w => by
    unfold hrM
    rw [he 101 w (by unfold Sno Scr; omega), he 102 w (by unfold Sno Scr; omega), he 110 (16 * (r - 2) + w) (by unfold Sno Scr; omega)]
  refine ⟨by rw [he 99 14 (by unfold Sno Scr; omega)]; exact h1, h2, by rw [he 99 15 (by unfold Sno Scr; omega)]; exact h3, h4, fun w hw => ?_⟩
  obtain ⟨g1, g2, g3, g4, g5, g6, g7⟩ := h5 w hw
  exact ⟨by rw [he 104 w (by unfold Sno Scr; omega)]; exact g1, g2, by rw [he 103 w (by unfold Sno Scr; omega)]; exact g3, g4, by rw [he 106 w (by unfold Sno Scr; omega)]; exact g5, by rw [hh]; exact g6, g7⟩
theorem InW.keepX {B : Bw} {od : Nat → Nat} {bk : Nat → Option Nat} {dr : Nat} {M N : Mem} (h : InW B od bk dr M) (he : Eqx Sno M N) : InW B od bk dr N := by
  obtain ⟨h1, h2, h3, h4, h5, h6, h7, h8, h9, h10, h11, kc, k1, k2, k3, k4⟩ := h
  have h16 : B.1 ≤ 16 := (h4 0 (by omega)).1.2.1
  refine ⟨h1, by rw [he 2 4 (by unfold Sno Scr; omega)]; exact h2, by rw [he 99 20 (by unfold Sno Scr; omega)]; exact h3, fun r hr => ⟨(h4 r hr).1.keepX (by omega) he, (h4 r hr).2.keepX he⟩, h5, fun k hk => ?_, h7, fun w hw i hi => ?_, fun w hw => ?_, h10, h11, kc, ?_, k2, ?_, fun q => ?_⟩
  · rw [he 9 k (by unfold Sno Scr; omega), he 107 k (by unfold Sno Scr; omega)]; exact h6 k hk
  · rw [he (w + 17) i (by unfold Sno Scr; omega), he (101 + i) w (by unfold Sno Scr; omega)]; exact h8 w hw i hi
  · rw [he 105 w (by unfold Sno Scr; omega)]; exact h9 w hw
  · rw [he 3 5 (by unfold Sno Scr; omega)]; exact k1
  · rw [he 3 4 (by unfold Sno Scr; omega)]; exact k3
  · rw [he 3 4 (by unfold Sno Scr; omega)] at q
    exact Kn_keep (k4 q) (he 3 1 (by unfold Sno Scr; omega)) (fun k _ => he 12 k (by unfold Sno Scr; omega))
theorem OpX_i {l : Launch} {E : EnT} {y6 y7 : MT} {d6 d7 : Nat} {as : List Value} {ok : String → Prop} {code : String → Int32} {M N N2 : Mem} {i : Int32} (h6 : Mm l E y6 d6 1 6 (.ref 0 :: as) M (Rx (.inl (some (.int i))) N)) (h7 : Mm l E y7 d7 0 0 (.ref 99 :: as) (mu N 119 0 i) (Rt (some (.int i)) N2)) (h0 : N2 99 0 = 0) (h1 : N2 119 0 = i) (hI : Inv N2) : OpX l E y6 y7 d6 d7 as ok code M := by
  refine ⟨_, h6, fun v N' q => ?_, fun C N' q => ?_, fun j N' q => ?_, fun C N' q => ?_⟩
  · cases q.1; exact ⟨_, rfl⟩
  · cases q.1
  · obtain ⟨q1, q2⟩ := q
    cases q1
    refine ⟨Rt (some (.int i)) N2, by rw [q2]; exact h7, Rt_nx, fun v2 N3 z => ?_⟩
    obtain ⟨z1, z2⟩ := z
    cases z1
    rw [z2]
    exact ⟨rfl, h0, h1, hI⟩
  · cases q.1
theorem OpX_t {l : Launch} {E : EnT} {y6 y7 : MT} {d6 d7 : Nat} {as : List Value} {ok : String → Prop} {code : String → Int32} {M N N2 : Mem} {C : String} {j : Int32} (h6 : Mm l E y6 d6 1 6 (.ref 0 :: as) M (Rx (.inr C) N)) (hok : ok C) (h7 : Mm l E y7 d7 0 0 (.ref 99 :: as) N (Rt (some (.int j)) N2)) (h0 : N2 99 0 = code C) (hI : Inv N2) : OpX l E y6 y7 d6 d7 as ok code M := by
  refine ⟨_, h6, fun v N' q => ?_, fun C N' q => ?_, fun j N' q => ?_, fun C' N' q => ?_⟩
  · cases q.1
  · cases q.1; exact hok
  · cases q.1
  · obtain ⟨q1, q2⟩ := q
    cases q1
    refine ⟨Rt (some (.int j)) N2, by rw [q2]; exact h7, Rt_nx, fun v2 N3 z => ?_⟩
    obtain ⟨z1, z2⟩ := z
    cases z1
    rw [z2]
    exact ⟨⟨_, rfl⟩, h0, hI⟩
theorem Inv.o {M : Mem} {i : Int32} (h : Inv M) : Inv (mu M 119 0 i) := h.keep (Eqx.rf.mu (by unfold Scr; omega))
theorem Inv.mk0 {M : Mem} {i : Int32} (h : Inv M) : Inv (mu (mu M 99 0 0) 99 0 i) := h.keep ((Eqx.rf.mu (by unfold Scr; omega)).mu (by unfold Scr; omega))
theorem op_told {l : Launch} {E : EnT} (hst : l.stackTraces = false) {M : Mem} (h : Inv M) (w k : Int32) : OpX l E mX6_told mX7_told 6 1 [.int w, .int k] (fun C => C = xIO ∨ C = xIA) kL_told M := by
  obtain ⟨B, od, bk, dr, hW⟩ := h.2.2.2.2.2
  have w0 := hW.2.2.2.1 0 (by omega)
  have h16 : B.1 ≤ 16 := w0.1.2.1
  have c6 := c_X6_told (E := E) hst w k M B.1 w0.1.1 h16
  unfold tldC at c6
  rcases ixB_cases w (n := B.1) (by omega) with ⟨hb, _⟩ | ⟨j, hj, rfl, hb⟩
  · rw [hb] at c6
    have c7 := c_X7_told (E := E) hst w k M B.1 w0.2.1 h16
    unfold tldM at c7
    rw [hb] at c7
    exact OpX_t c6 (Or.inl rfl) c7 rfl h.mk0
  · rw [hb, nI_clamp (by omega)] at c6
    rcases ixB_cases k (n := 6) (by decide) with ⟨hk, _⟩ | ⟨i, hi, rfl, hk⟩
    · rw [hk] at c6
      have c7 := c_X7_told (E := E) hst (nI j) k M B.1 w0.2.1 h16
      unfold tldM at c7
      rw [hb, hk] at c7
      exact OpX_t c6 (Or.inr rfl) c7 rfl h.mk0
    · rw [hk, nI_clamp (by omega)] at c6
      have c7 := c_X7_told (E := E) hst (nI j) (nI i) (mu M 119 0 (M (j + 17) i)) B.1 w0.2.1 h16
      unfold tldM at c7
      rw [hb, hk, nI_clamp (show j < 2 ^ 31 by omega), nI_clamp (show i < 2 ^ 31 by omega)] at c7
      simp only [if_true] at c7
      rw [mu_o (show 101 + i ≠ 119 by omega), ← hW.2.2.2.2.2.2.2.1 j hj i hi] at c7
      exact OpX_i c6 c7 rfl rfl h.o.m0
theorem op_hours {l : Launch} {E : EnT} (hst : l.stackTraces = false) {M : Mem} (h : Inv M) (r w : Int32) : OpX l E mX6_hours mX7_hours 6 1 [.int r, .int w] (fun C => C = xIO ∨ C = xIA) kL_hours M := by
  obtain ⟨B, od, bk, dr, hW⟩ := h.2.2.2.2.2
  have w0 := hW.2.2.2.1 0 (by omega)
  have h16 : B.1 ≤ 16 := w0.1.2.1
  have h20 := hW.1
  have c6 := c_X6_hours (E := E) hst r w M B.1 dr w0.1.1 h16 hW.2.1 h20
  unfold hrsC at c6
  rcases ixB_cases w (n := B.1) (by omega) with ⟨hb, _⟩ | ⟨j, hj, rfl, hb⟩
  · rw [hb] at c6
    have c7 := c_X7_hours (E := E) hst r w M B.1 dr w0.2.1 h16 hW.2.2.1 h20
    unfold hrsM at c7
    rw [hb] at c7
    exact OpX_t c6 (Or.inl rfl) c7 rfl h.mk0
  · rw [hb, nI_clamp (by omega)] at c6
    rcases ixB_cases r (n := dr + 2) (by omega) with ⟨hk, _⟩ | ⟨i, hi, rfl, hk⟩
    · rw [hk] at c6
      have c7 := c_X7_hours (E := E) hst r (nI j) M B.1 dr w0.2.1 h16 hW.2.2.1 h20
      unfold hrsM at c7
      rw [hb, hk] at c7
      exact OpX_t c6 (Or.inr rfl) c7 rfl h.mk0
    · rw [hk, nI_clamp (by omega)] at c6
      have c7 := c_X7_hours (E := E) hst (nI i) (nI j) (mu M 119 0 (M (i + 55) j)) B.1 dr w0.2.1 h16 hW.2.2.1 h20
      unfold hrsM at c7
      rw [hb, hk, nI_clamp (show j < 2 ^ 31 by omega), nI_clamp (show i < 2 ^ 31 by omega)] at c7
      simp only [if_true] at c7
      have e : hrM (mu M 119 0 (M (i + 55) j)) i j = M (i + 55) j := by
        rw [show hrM (mu M 119 0 (M (i + 55) j)) i j = hrM M i j from rfl, ((hW.2.2.2.1 i hi).1.2.2.2.2 j hj).2.2.2.2.2.1, ((hW.2.2.2.1 i hi).2.2.2.2.2 j hj).2.2.2.2.2.1]
      rw [e] at c7
      exact OpX_i c6 c7 rfl rfl h.o.m0
theorem op_noise {l : Launch} {E : EnT} (hst : l.stackTraces = false) {M : Mem} (h : Inv M) (v : Int32) : OpV l E mX6_noise mX7_noise 0 0 [.int v] M := by
  obtain ⟨h1, h2, h3, ⟨c, c1, c2, c3, c4⟩, h5, B, od, bk, dr, hW⟩ := id h
  have c6 := c_X6_noise (E := E) hst v M c c2 c1
  by_cases e : c = 20
  · rw [if_pos e, if_pos e] at c6
    have c7 := c_X7_noise (E := E) hst v M c c3 c1
    rw [if_pos e, if_pos e] at c7
    exact OpV_Rt c6 c7 rfl h.m0
  · rw [if_neg e, if_neg e] at c6
    have c7 := c_X7_noise (E := E) hst v (mu (mu M 5 c v) 0 5 (nI (c + 1))) c c3 c1
    rw [if_neg e, if_neg e] at c7
    refine OpV_Rt c6 c7 rfl ?_
    have hE : Eqx (fun a b => (a = 5) ∨ (a = 0 ∧ b = 5) ∨ (a = 99 ∧ (b = 0 ∨ b = 19)) ∨ a = 109) M (mu (mu (mu (mu (mu M 5 c v) 0 5 (nI (c + 1))) 99 0 0) 109 c v) 99 19 (nI (c + 1))) := ((((Eqx.rf.mu (by omega)).mu (by omega)).mu (by omega)).mu (by omega)).mu (by omega)
    have n5 : ∀ i, mu (mu (mu (mu (mu M 5 c v) 0 5 (nI (c + 1))) 99 0 0) 109 c v) 99 19 (nI (c + 1)) 5 i = if i = c then v else M 5 i := fun i => by rw [mu_o (by decide), mu_o (by decide), mu_o (by decide), mu_o (by decide), mu_at, if_pos rfl]
    have n9 : ∀ i, mu (mu (mu (mu (mu M 5 c v) 0 5 (nI (c + 1))) 99 0 0) 109 c v) 99 19 (nI (c + 1)) 109 i = if i = c then v else M 109 i := fun i => by rw [mu_o (by decide), mu_at, if_pos rfl]; rfl
    have a1 : mu (mu (mu (mu (mu M 5 c v) 0 5 (nI (c + 1))) 99 0 0) 109 c v) 99 19 (nI (c + 1)) 0 5 = nI (c + 1) := rfl
    have a2 : mu (mu (mu (mu (mu M 5 c v) 0 5 (nI (c + 1))) 99 0 0) 109 c v) 99 19 (nI (c + 1)) 99 19 = nI (c + 1) := rfl
    generalize mu (mu (mu (mu (mu M 5 c v) 0 5 (nI (c + 1))) 99 0 0) 109 c v) 99 19 (nI (c + 1)) = N at hE n5 n9 a1 a2 ⊢
    obtain ⟨t, t1, t2, t3, t4⟩ := h1
    obtain ⟨lim, l1, l2, l3⟩ := h3
    obtain ⟨T, D, y1, y2, y3, y4, y5, y6, y7⟩ := h5
    refine ⟨⟨t, t1, by rw [hE 1 1 (by omega)]; exact t2, by rw [hE 99 2 (by omega)]; exact t3, fun i hi => by rw [hE 7 i (by omega), hE 100 i (by omega)]; exact t4 i hi⟩, by rw [hE 1 2 (by omega), hE 99 6 (by omega)]; exact h2, ⟨lim, l1, by rw [hE 0 6 (by omega)]; exact l2, by rw [hE 99 16 (by omega)]; exact l3⟩, ⟨c + 1, by omega, a1, a2, fun i hi => by rw [n5, n9, c4 i hi]⟩, ⟨T, D, y1, y2, by rw [hE 4 0 (by omega)]; exact y3, by rw [hE 99 30 (by omega)]; exact y4, by rw [hE 4 1 (by omega)]; exact y5, by rw [hE 99 31 (by omega)]; exact y6, fun i hi => by rw [hE 14 i (by omega), hE 15 i (by omega), hE 16 i (by omega), hE 116 i (by omega), hE 117 i (by omega), hE 118 i (by omega)]; exact y7 i hi⟩, B, od, bk, dr, ?_⟩
    exact hW.keepX (hE.mono (fun a b q => by unfold Sno Scr; omega))
