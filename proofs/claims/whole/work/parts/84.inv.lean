/-! what holds between two operations -/
def Scr (a b : Nat) : Prop := (a = 99 ∧ (b = 0 ∨ b = 3 ∨ b = 4 ∨ b = 5)) ∨ (a = 1 ∧ 4 ≤ b) ∨ a = 6 ∨ (a = 2 ∧ 7 ≤ b) ∨ a = 11 ∨ a = 13 ∨ (33 ≤ a ∧ a < 55 ∧ b = 2) ∨ (77 ≤ a ∧ a < 99) ∨ a = 108 ∨ (111 ≤ a ∧ a < 116) ∨ a = 119 ∨ (a = 3 ∧ b = 3)
def InT (M : Mem) : Prop := ∃ t, t ≤ 200 ∧ M 1 1 = nI t ∧ M 99 2 = nI t ∧ ∀ i, i < 200 → ∃ x, x < 256 ∧ M 7 i = nI x ∧ M 100 i &&& 255 = nI x
def InL (M : Mem) : Prop := ∃ lim, lim ≤ 1000 ∧ M 0 6 = nI lim ∧ M 99 16 = nI lim
def InN (M : Mem) : Prop := ∃ c, c ≤ 20 ∧ M 0 5 = nI c ∧ M 99 19 = nI c ∧ ∀ i, i < 20 → M 5 i = M 109 i
def InY (M : Mem) : Prop := ∃ T D, T ≤ 30 ∧ D ≤ T ∧ M 4 0 = nI T ∧ M 99 30 = nI T ∧ M 4 1 = nI D ∧ M 99 31 = nI D ∧ (∀ i, i < 30 → M 14 i = M 116 i ∧ M 15 i = M 117 i ∧ M 16 i = M 118 i)
def withC (B : Bw) (c : Nat) : Bw := (B.1, B.2.1, B.2.2.1, B.2.2.2.1, B.2.2.2.2.1, c)
def InW (B : Bw) (od : Nat → Nat) (bk : Nat → Option Nat) (dr : Nat) (M : Mem) : Prop := dr ≤ 20 ∧ M 2 4 = nI dr ∧ M 99 20 = nI dr ∧ (∀ r, r < dr + 2 → WC (rowP B r) M r ∧ WM (rowP B r) M r) ∧ Pm B.1 od ∧ (∀ k, k < B.1 → M 9 k = nI (od k) ∧ M 107 k = nI (od k)) ∧ (∀ w o, w < B.1 → B.2.2.2.2.1 w o = true → o < w) ∧ (∀ w, w < B.1 → ∀ i, i < 6 → M (w + 17) i = M (101 + i) w) ∧ (∀ w, w < B.1 → M 105 w = enI (bk w)) ∧ (∀ w x, bk w = some x → x ≤ 40) ∧ (∀ w, w < B.1 → B.2.1 0 w ≤ B.2.1 1 w) ∧ ∃ kc, M 3 5 = nI kc ∧ (kc ≤ 60 ∨ kc = 4294967295) ∧ (M 3 4 = -1 ∨ ∃ ks, ks ≤ B.1 ∧ M 3 4 = nI ks) ∧ (M 3 4 = nI B.1 → Kn (withC B kc) M)
def Inv (M : Mem) : Prop := InT M ∧ M 1 2 = M 99 6 ∧ InL M ∧ InN M ∧ InY M ∧ ∃ B od bk dr, InW B od bk dr M
theorem WC.keepS {P : Pb} {M N : Mem} {r : Nat} (h : WC P M r) (hr : r < 22) (he : Eqx Scr M N) : WC P N r := by
  obtain ⟨h1, h2, h3, h4, h5⟩ := h
  refine ⟨by rw [he 2 3 (by unfold Scr; omega)]; exact h1, h2, by rw [he 2 5 (by unfold Scr; omega)]; exact h3, h4, fun w hw => ?_⟩
  obtain ⟨g1, g2, g3, g4, g5, g6, g7⟩ := h5 w hw
  exact ⟨by rw [he (w + 17) 3 (by unfold Scr; omega)]; exact g1, g2, by rw [he (w + 17) 6 (by unfold Scr; omega)]; exact g3, g4, by rw [he (w + 17) 5 (by unfold Scr; omega)]; exact g5, by rw [he (r + 55) w (by unfold Scr; omega)]; exact g6, g7⟩
theorem hrM_keepS {M N : Mem} {r w : Nat} (he : Eqx Scr M N) : hrM N r w = hrM M r w := by
  unfold hrM
  rw [he 101 w (by unfold Scr; omega), he 102 w (by unfold Scr; omega), he 110 (16 * (r - 2) + w) (by unfold Scr; omega)]
theorem WM.keepS {P : Pb} {M N : Mem} {r : Nat} (h : WM P M r) (he : Eqx Scr M N) : WM P N r := by
  obtain ⟨h1, h2, h3, h4, h5⟩ := h
  refine ⟨by rw [he 99 14 (by unfold Scr; omega)]; exact h1, h2, by rw [he 99 15 (by unfold Scr; omega)]; exact h3, h4, fun w hw => ?_⟩
  obtain ⟨g1, g2, g3, g4, g5, g6, g7⟩ := h5 w hw
  exact ⟨by rw [he 104 w (by unfold Scr; omega)]; exact g1, g2, by rw [he 103 w (by unfold Scr; omega)]; exact g3, g4, by rw [he 106 w (by unfold Scr; omega)]; exact g5, by rw [hrM_keepS he]; exact g6, g7⟩
theorem Kn_keep {B : Bw} {M N : Mem} (h : Kn B M) (h1 : N 3 1 = M 3 1) (h2 : ∀ k, k < B.1 → N 12 k = M 12 k) : Kn B N := by
  obtain ⟨f, f1, f2, f3⟩ := h
  exact ⟨f, f1, by rw [h1]; exact f2, fun k hk => by rw [h2 k hk]; exact f3 k hk⟩
theorem InW.keep {B : Bw} {od : Nat → Nat} {bk : Nat → Option Nat} {dr : Nat} {M N : Mem} (h : InW B od bk dr M) (he : Eqx Scr M N) : InW B od bk dr N := by
  obtain ⟨h1, h2, h3, h4, h5, h6, h7, h8, h9, h10, h11, kc, k1, k2, k3, k4⟩ := h
  have h16 : B.1 ≤ 16 := (h4 0 (by omega)).1.2.1
  refine ⟨h1, by rw [he 2 4 (by unfold Scr; omega)]; exact h2, by rw [he 99 20 (by unfold Scr; omega)]; exact h3, fun r hr => ⟨(h4 r hr).1.keepS (by omega) he, (h4 r hr).2.keepS he⟩, h5, fun k hk => ?_, h7, fun w hw i hi => ?_, fun w hw => ?_, h10, h11, kc, ?_, k2, ?_, fun q => ?_⟩
  · rw [he 9 k (by unfold Scr; omega), he 107 k (by unfold Scr; omega)]; exact h6 k hk
  · rw [he (w + 17) i (by unfold Scr; omega), he (101 + i) w (by unfold Scr; omega)]; exact h8 w hw i hi
  · rw [he 105 w (by unfold Scr; omega)]; exact h9 w hw
  · rw [he 3 5 (by unfold Scr; omega)]; exact k1
  · rw [he 3 4 (by unfold Scr; omega)]; exact k3
  · rw [he 3 4 (by unfold Scr; omega)] at q
    exact Kn_keep (k4 q) (he 3 1 (by unfold Scr; omega)) (fun k _ => he 12 k (by unfold Scr; omega))
theorem Inv.keep {M N : Mem} (h : Inv M) (he : Eqx Scr M N) : Inv N := by
  obtain ⟨⟨t, t1, t2, t3, t4⟩, h2, ⟨lim, l1, l2, l3⟩, ⟨c, c1, c2, c3, c4⟩, ⟨T, D, y1, y2, y3, y4, y5, y6, y7⟩, B, od, bk, dr, hW⟩ := h
  refine ⟨⟨t, t1, by rw [he 1 1 (by unfold Scr; omega)]; exact t2, by rw [he 99 2 (by unfold Scr; omega)]; exact t3, fun i hi => ?_⟩, ?_, ⟨lim, l1, by rw [he 0 6 (by unfold Scr; omega)]; exact l2, by rw [he 99 16 (by unfold Scr; omega)]; exact l3⟩, ⟨c, c1, by rw [he 0 5 (by unfold Scr; omega)]; exact c2, by rw [he 99 19 (by unfold Scr; omega)]; exact c3, fun i hi => ?_⟩, ⟨T, D, y1, y2, by rw [he 4 0 (by unfold Scr; omega)]; exact y3, by rw [he 99 30 (by unfold Scr; omega)]; exact y4, by rw [he 4 1 (by unfold Scr; omega)]; exact y5, by rw [he 99 31 (by unfold Scr; omega)]; exact y6, fun i hi => ?_⟩, B, od, bk, dr, hW.keep he⟩
  · rw [he 7 i (by unfold Scr; omega), he 100 i (by unfold Scr; omega)]; exact t4 i hi
  · rw [he 1 2 (by unfold Scr; omega), he 99 6 (by unfold Scr; omega)]; exact h2
  · rw [he 5 i (by unfold Scr; omega), he 109 i (by unfold Scr; omega)]; exact c4 i hi
  · rw [he 14 i (by unfold Scr; omega), he 15 i (by unfold Scr; omega), he 16 i (by unfold Scr; omega), he 116 i (by unfold Scr; omega), he 117 i (by unfold Scr; omega), he 118 i (by unfold Scr; omega)]; exact y7 i hi
/-- an operation that throws nothing: both sides answer the same, and what holds goes on holding -/
def OpV (l : Launch) (E : EnT) (y6 y7 : MT) (d6 d7 : Nat) (as : List Value) (M : Mem) : Prop := ∃ P1, Mm l E y6 d6 0 0 (.ref 0 :: as) M P1 ∧ (∀ C N, ¬ P1 (.inr C) N) ∧ ∀ v N, P1 (.inl v) N → ∃ i P2, v = some (.int i) ∧ Mm l E y7 d7 0 0 (.ref 99 :: as) N P2 ∧ (∀ C N, ¬ P2 (.inr C) N) ∧ ∀ v2 N2, P2 (.inl v2) N2 → v2 = some (.int i) ∧ Inv N2
theorem OpV_Rt {l : Launch} {E : EnT} {y6 y7 : MT} {d6 d7 : Nat} {as : List Value} {M N N2 : Mem} {i j : Int32} (h6 : Mm l E y6 d6 0 0 (.ref 0 :: as) M (Rt (some (.int i)) N)) (h7 : Mm l E y7 d7 0 0 (.ref 99 :: as) N (Rt (some (.int j)) N2)) (e : i = j) (hI : Inv N2) : OpV l E y6 y7 d6 d7 as M :=
  ⟨_, h6, Rt_nx, fun v N' h => ⟨i, Rt (some (.int j)) N2, by cases h.1; rfl, by rw [h.2]; exact h7, Rt_nx, fun v2 N'' h2 => ⟨by rw [e]; cases h2.1; rfl, by rw [h2.2]; exact hI⟩⟩⟩
theorem OpV_RP {l : Launch} {E : EnT} {y6 y7 : MT} {d6 d7 : Nat} {as : List Value} {M : Mem} {i : Int32} {Q1 : Mem → Prop} (h6 : Mm l E y6 d6 0 0 (.ref 0 :: as) M (RP (some (.int i)) Q1)) (h7 : ∀ N, Q1 N → ∃ j Q2, Mm l E y7 d7 0 0 (.ref 99 :: as) N (RP (some (.int j)) Q2) ∧ i = j ∧ ∀ N2, Q2 N2 → Inv N2) : OpV l E y6 y7 d6 d7 as M :=
  ⟨_, h6, RP_nx, fun v N h => by
    obtain ⟨j, Q2, q1, q2, q3⟩ := h7 N h.2
    exact ⟨i, _, by cases h.1; rfl, q1, RP_nx, fun v2 N2 h2 => ⟨by rw [q2]; cases h2.1; rfl, q3 N2 h2.2⟩⟩⟩
theorem Inv.m0 {M : Mem} (h : Inv M) : Inv (mu M 99 0 0) := h.keep (Eqx.rf.mu (by unfold Scr; omega))
theorem op_fault {l : Launch} {E : EnT} (hst : l.stackTraces = false) {M : Mem} (h : Inv M) : OpV l E mX6_fault mX7_fault 0 0 [] M := OpV_Rt (c_X6_fault hst M) (c_X7_fault hst M) h.2.1 h.m0
theorem op_ends {l : Launch} {E : EnT} (hst : l.stackTraces = false) {M : Mem} (h : Inv M) : OpV l E mX6_ends mX7_ends 0 0 [] M := by
  obtain ⟨T, D, y1, y2, y3, y4, y5, y6, y7⟩ := h.2.2.2.2.1
  exact OpV_Rt (c_X6_ends hst M) (c_X7_ends hst M) (by rw [y5, y6]) h.m0
theorem op_order {l : Launch} {E : EnT} (hst : l.stackTraces = false) {M : Mem} (h : Inv M) (x : Int32) : OpV l E mX6_order mX7_order 0 0 [.int x] M := by
  obtain ⟨B, od, bk, dr, hW⟩ := h.2.2.2.2.2
  have w := hW.2.2.2.1 0 (by omega)
  refine OpV_Rt (c_X6_order hst x M B.1 w.1.1 w.1.2.1) (c_X7_order hst x M B.1 w.2.1 w.1.2.1) ?_ h.m0
  have h16 : B.1 ≤ 16 := w.1.2.1
  rcases ixB_cases x (n := B.1) (by omega) with ⟨hb, _⟩ | ⟨j, hj, rfl, hb⟩
  · rw [hb]; rfl
  · rw [hb, nI_clamp (by omega)]
    have := hW.2.2.2.2.2.1 j hj
    simp only [if_true]
    rw [this.1, this.2]
theorem op_count {l : Launch} {E : EnT} (hst : l.stackTraces = false) {M : Mem} (h : Inv M) (x : Int32) : OpV l E mX6_count mX7_count 0 0 [.int x] M := by
  obtain ⟨⟨t, t1, t2, t3, t4⟩, h2, ⟨lim, l1, l2, l3⟩, ⟨c, c1, c2, c3, c4⟩, ⟨T, D, y1, y2, y3, y4, y5, y6, y7⟩, B, od, bk, dr, hW⟩ := id h
  have w := hW.2.2.2.1 0 (by omega)
  refine OpV_Rt (c_X6_count hst x M) (c_X7_count hst x M) ?_ h.m0
  congr 1
  funext i
  rw [show M 2 3 = M 99 14 from w.1.1.trans w.2.1.symm, show M 2 4 = M 99 20 from hW.2.1.trans hW.2.2.1.symm, show M 0 5 = M 99 19 from c2.trans c3.symm, show M 4 0 = M 99 30 from y3.trans y4.symm, show M 1 1 = M 99 2 from t2.trans t3.symm]
