theorem WC_crew {B : Bw} {M N : Mem} {r c : Nat} (h : WC (rowP B r) M r) (hr : r < 22) (hc : N 2 5 = nI c) (hc6 : c ≤ 60) (he : ∀ a b, Swk a b → ¬ (a = 2 ∧ b = 5) → ¬ (a = 99 ∧ b = 15) → N a b = M a b) : WC (rowP (withC B c) r) N r := by
  obtain ⟨h1, h2, h3, h4, h5⟩ := h
  have h2 : B.1 ≤ 16 := h2
  refine ⟨by rw [he 2 3 (by unfold Swk; omega) (by omega) (by omega)]; exact h1, h2, hc, hc6, fun w hw => ?_⟩
  have hw : w < B.1 := hw
  obtain ⟨g1, g2, g3, g4, g5, g6, g7⟩ := h5 w hw
  exact ⟨by rw [he (w + 17) 3 (by unfold Swk; omega) (by omega) (by omega)]; exact g1, g2, by rw [he (w + 17) 6 (by unfold Swk; omega) (by omega) (by omega)]; exact g3, g4, by rw [he (w + 17) 5 (by unfold Swk; omega) (by omega) (by omega)]; exact g5, by rw [he (r + 55) w (by unfold Swk; omega) (by omega) (by omega)]; exact g6, g7⟩
theorem WM_crew {B : Bw} {M N : Mem} {r c : Nat} (h : WM (rowP B r) M r) (hc : N 99 15 = nI c) (hc6 : c ≤ 60) (he : ∀ a b, Swk a b → ¬ (a = 2 ∧ b = 5) → ¬ (a = 99 ∧ b = 15) → N a b = M a b) : WM (rowP (withC B c) r) N r := by
  obtain ⟨h1, h2, h3, h4, h5⟩ := h
  have hh : ∀ w, hrM N r w = hrM M r w := fun w => by
    unfold hrM
    rw [he 101 w (by unfold Swk; omega) (by omega) (by omega), he 102 w (by unfold Swk; omega) (by omega) (by omega), he 110 (16 * (r - 2) + w) (by unfold Swk; omega) (by omega) (by omega)]
  refine ⟨by rw [he 99 14 (by unfold Swk; omega) (by omega) (by omega)]; exact h1, h2, hc, hc6, fun w hw => ?_⟩
  have hw : w < B.1 := hw
  obtain ⟨g1, g2, g3, g4, g5, g6, g7⟩ := h5 w hw
  exact ⟨by rw [he 104 w (by unfold Swk; omega) (by omega) (by omega)]; exact g1, g2, by rw [he 103 w (by unfold Swk; omega) (by omega) (by omega)]; exact g3, g4, by rw [he 106 w (by unfold Swk; omega) (by omega) (by omega)]; exact g5, by rw [hh]; exact g6, g7⟩
theorem InY.keep {M N : Mem} (h : InY M) (e1 : N 4 = M 4) (e2 : ∀ b, b = 30 ∨ b = 31 → N 99 b = M 99 b) (e3 : ∀ a, a = 14 ∨ a = 15 ∨ a = 16 ∨ a = 116 ∨ a = 117 ∨ a = 118 → N a = M a) : InY N := by
  unfold InY
  rw [e1, e2 30 (by omega), e2 31 (by omega), e3 14 (by omega), e3 15 (by omega), e3 16 (by omega), e3 116 (by omega), e3 117 (by omega), e3 118 (by omega)]
  exact h
set_option maxHeartbeats 4000000 in
theorem op_set {l : Launch} {E : EnT} (hst : l.stackTraces = false) {M : Mem} (h : Inv M) (k v : Int32) : OpX l E mX6_set mX7_set 6 1 [.int k, .int v] (fun C => C = xIA) kL_set M := by
  obtain ⟨hT, h2, ⟨lim, l1, l2, l3⟩, hN, hY, B, od, bk, dr, hW⟩ := id h
  have c6 := c_X6_set (E := E) hst k v M
  unfold setC at c6
  cases hs : setOk k v with
  | false =>
    rw [hs] at c6
    have c7 := c_X7_set (E := E) hst k v M
    unfold setM at c7
    rw [hs] at c7
    exact OpX_t c6 rfl c7 rfl h.mk0
  | true =>
    rw [hs] at c6
    unfold setOk at hs
    by_cases hk : k = 0
    · rw [if_pos rfl, if_pos hk] at c6
      have c7 := c_X7_set (E := E) hst k v (mu (mu M 2 5 v) 119 0 (M 2 5))
      unfold setM setOk at c7
      rw [hs, if_pos rfl, if_pos hk] at c7
      subst hk
      have hv : 1 ≤ v ∧ v ≤ 60 := by simpa using hs
      have w0 := hW.2.2.2.1 0 (by omega)
      rcases ixB_cases v (n := 61) (by decide) with ⟨_, hb⟩ | ⟨c, hc, e, _⟩
      · refine absurd hb (fun q => ?_)
        rw [Int32.lt_iff_toInt_lt, Int32.le_iff_toInt_le, nI_toInt (by decide)] at q
        have q1 := hv.1
        have q2 := hv.2
        rw [Int32.le_iff_toInt_le] at q1 q2
        have e1 : (1 : Int32).toInt = 1 := rfl
        have e2 : (60 : Int32).toInt = 60 := rfl
        have e3 : (0 : Int32).toInt = 0 := rfl
        omega
      · subst e
        have e5 : mu (mu M 2 5 (nI c)) 119 0 (M 2 5) 99 15 = M 2 5 := by
          show M 99 15 = M 2 5
          rw [w0.1.2.2.1, w0.2.2.2.1]
        simp only at c6 c7
        rw [e5] at c7
        refine OpX_i c6 c7 rfl rfl ?_
        have he : ∀ a b, ¬ (a = 2 ∧ b = 5) → ¬ (a = 99 ∧ (b = 15 ∨ b = 0)) → a ≠ 119 → mu (mu (mu (mu M 2 5 (nI c)) 119 0 (M 2 5)) 99 0 0) 99 15 (nI c) a b = M a b := fun a b z1 z2 z3 => by
          have := ((((Eqx.rf (S := fun a b => (a = 2 ∧ b = 5) ∨ (a = 99 ∧ (b = 15 ∨ b = 0)) ∨ a = 119) (M := M)).mu (k := 2) (i := 5) (v := nI c) (by omega)).mu (k := 119) (i := 0) (v := M 2 5) (by omega)).mu (k := 99) (i := 0) (v := 0) (by omega)).mu (k := 99) (i := 15) (v := nI c) (by omega)
          exact this a b (by omega)
        have a1 : mu (mu (mu (mu M 2 5 (nI c)) 119 0 (M 2 5)) 99 0 0) 99 15 (nI c) 2 5 = nI c := rfl
        have a2 : mu (mu (mu (mu M 2 5 (nI c)) 119 0 (M 2 5)) 99 0 0) 99 15 (nI c) 99 15 = nI c := rfl
        have he2 : ∀ a b, Swk a b → ¬ (a = 2 ∧ b = 5) → ¬ (a = 99 ∧ b = 15) → mu (mu (mu (mu M 2 5 (nI c)) 119 0 (M 2 5)) 99 0 0) 99 15 (nI c) a b = M a b := fun a b z1 z2 z3 => he a b z2 (by unfold Swk at z1; omega) (by unfold Swk at z1; omega)
        obtain ⟨g1, g2, g3, g4, g5, g6, g7, g8, g9, g10, g11, kc, k1, k2, k3, k4⟩ := hW
        have h16 : B.1 ≤ 16 := w0.1.2.1
        refine ⟨hT.keep rfl rfl rfl rfl, h2, ⟨lim, l1, l2, l3⟩, hN.keep rfl rfl rfl rfl, hY.keep rfl (fun b _ => he 99 b (by omega) (by omega) (by omega)) (fun a _ => funext fun b => he a b (by omega) (by omega) (by omega)), withC B c, od, bk, dr, g1, g2, g3, fun r hr => ⟨WC_crew (g4 r hr).1 (by omega) a1 (by omega) he2, WM_crew (g4 r hr).2 a2 (by omega) he2⟩, g5, g6, g7, fun w hw i hi => ?_, g9, g10, g11, kc, k1, k2, k3, fun q => Kn_keep (k4 q) rfl (fun k _ => rfl)⟩
        have hw : w < B.1 := hw
        rw [he (w + 17) i (by omega) (by omega) (by omega), he (101 + i) w (by omega) (by omega) (by omega)]
        exact g8 w hw i hi
    · rw [if_pos rfl, if_neg hk] at c6
      have c7 := c_X7_set (E := E) hst k v (mu (mu M 0 6 v) 119 0 (M 0 6))
      unfold setM setOk at c7
      rw [hs, if_pos rfl, if_neg hk] at c7
      have hv : k = 1 ∧ 0 ≤ v ∧ v ≤ 1000 := by
        simp [hk] at hs
        exact ⟨hs.1.1, hs.1.2, hs.2⟩
      rcases ixB_cases v (n := 1001) (by decide) with ⟨_, hb⟩ | ⟨c, hc, e, _⟩
      · refine absurd hb (fun q => ?_)
        rw [Int32.lt_iff_toInt_lt, Int32.le_iff_toInt_le, nI_toInt (by decide)] at q
        have q1 := hv.2.1
        have q2 := hv.2.2
        rw [Int32.le_iff_toInt_le] at q1 q2
        have e2 : (1000 : Int32).toInt = 1000 := rfl
        have e3 : (0 : Int32).toInt = 0 := rfl
        omega
      · subst e
        have e5 : mu (mu M 0 6 (nI c)) 119 0 (M 0 6) 99 16 = M 0 6 := by
          show M 99 16 = M 0 6
          rw [l2, l3]
        simp only at c6 c7
        rw [e5] at c7
        refine OpX_i c6 c7 rfl rfl ?_
        refine Inv_of h ((((Eqx.rf.mu (by unfold Sno; omega)).mu (by unfold Sno Scr; omega)).mu (by unfold Sno Scr; omega)).mu (by unfold Sno; omega)) (hT.keep rfl rfl rfl rfl) h2 ⟨c, by omega, rfl, rfl⟩ (hN.keep rfl rfl rfl rfl) (hY.keep rfl (fun b hb => by rcases hb with e | e <;> subst e <;> rfl) (fun a ha => by rcases ha with e | e | e | e | e | e <;> subst e <;> rfl))
