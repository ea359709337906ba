theorem RwM_nx {b : Nat → Nat} {t n0 : Nat} {x : Int32} {M : Mem} : ∀ C N, ¬ RwM b t n0 x M (.inr C) N := fun C N h => by
  rcases h with ⟨_, h, _⟩ | ⟨_, _, h, _⟩ | ⟨_, _, _, _, _, _, ⟨_, _, _, _, _, h, _⟩ | ⟨_, _, h, _⟩⟩ <;> cases h
set_option maxHeartbeats 8000000 in
theorem op_work {l : Launch} {E : EnT} (hst : l.stackTraces = false) (hV : hVw E) {M : Mem} (h : Inv M) (x : Int32) : OpX l E mX6_work mX7_work 9 7 [.int x] (fun C => C = xIA ∨ C = xIS) kL_work M := by
  obtain ⟨⟨t, t1, t2, t3, t4⟩, h2, hL, hN, hY, B, od, bk, dr, hW⟩ := id h
  have w0 := hW.2.2.2.1 0 (by omega)
  have h16 : B.1 ≤ 16 := w0.1.2.1
  have hb6 : ∀ i, i < 200 → M 7 i = nI (M 7 i).toNatClampNeg ∧ (M 7 i).toNatClampNeg < 256 ∧ M 100 i &&& 255 = nI (M 7 i).toNatClampNeg := fun i hi => by
    obtain ⟨y, y1, y2, y3⟩ := t4 i hi
    rw [y2, nI_clamp (by omega)]
    exact ⟨rfl, y1, y3⟩
  generalize hbd : (fun i => (M 7 i).toNatClampNeg) = b
  have hbi : ∀ i, i < 200 → M 7 i = nI (b i) ∧ b i < 256 ∧ M 100 i &&& 255 = nI (b i) := fun i hi => by rw [← hbd]; exact hb6 i hi
  have c7 : ∀ N, N 99 2 = nI t → (∀ i, N 100 i = M 100 i) → N 99 14 = nI B.1 → Mm l E mX7_work 7 0 0 [.ref 99, .int x] N (RwM b t B.1 x N) := fun N e1 e2 e3 => c_X7_work hst hV N b t B.1 x e1 t1 (fun i hi => by rw [e2]; exact ⟨(hbi i (by omega)).2.2, (hbi i (by omega)).2.1⟩) e3 h16
  refine ⟨_, c_X6_work hst hV M b t B.1 x t2 t1 (fun i hi => ⟨(hbi i (by omega)).1, (hbi i (by omega)).2.1⟩) w0.1.1 h16, fun v N q => ?_, fun C N q => ?_, fun i N q => ?_, fun C N q => ?_⟩
  · rcases q with ⟨_, r, _⟩ | ⟨_, _, r, _⟩ | ⟨_, _, _, _, _, ⟨_, _, _, _, _, r, _⟩ | ⟨_, _, r, _⟩⟩ <;> cases r <;> exact ⟨_, rfl⟩
  · rcases q with ⟨_, r, _⟩ | ⟨_, _, r, _⟩ | ⟨_, _, _, _, _, ⟨_, _, _, _, _, r, _⟩ | ⟨_, _, r, _⟩⟩ <;> cases r
    · exact Or.inl rfl
    · exact Or.inr rfl
  · rcases q with ⟨_, r, _⟩ | ⟨_, _, r, _⟩ | ⟨hx, hlt, Nc, hE, hf, ⟨k, p, hr, hk, hk3, r, hNN, hp⟩ | ⟨D, hr, r, hNN, hp, hDC⟩⟩
    · cases r
    · cases r
    · -- a fault
      cases r
      subst hNN
      have e9 : ∀ a b, a ≠ 1 → a ≠ 6 → a ≠ 119 → mu N 119 0 (nI k - 10) a b = M a b := fun a b z1 z2 z3 => by rw [mu_o z3]; exact hE a b (by unfold S16; omega)
      refine ⟨_, c7 _ (by rw [e9 99 2 (by decide) (by decide) (by decide)]; exact t3) (fun i => e9 100 i (by decide) (by decide) (by decide)) (by rw [e9 99 14 (by decide) (by decide) (by decide)]; exact w0.2.1), RwM_nx, fun v2 N2 q2 => ?_⟩
      rcases q2 with ⟨hx2, _⟩ | ⟨_, h162, _⟩ | ⟨_, _, Nm, hEm, m0, m2, ⟨k', p', hr2, _, _, r, hNN2, hp2⟩ | ⟨D', hr2, _⟩⟩
      · rw [hx] at hx2; cases hx2
      · omega
      · rw [hr] at hr2
        cases hr2
        cases r
        subst hNN2
        have hA : ∀ a b, a ≠ 1 → a ≠ 6 → a ≠ 119 → ¬ SwW B.1 a b → N2 a b = M a b := fun a b z1 z2 z3 z4 => by rw [hEm a b z4, e9 a b z1 z2 z3]
        have hN1 : ∀ b, N2 1 b = N 1 b := fun b => by rw [hEm 1 b (by unfold SwW Sw5; omega), mu_o (by decide)]
        refine ⟨rfl, m0, by rw [hEm 119 0 (by unfold SwW Sw5; omega)]; rfl, ?_⟩
        obtain ⟨lim, l1, l2, l3⟩ := hL
        obtain ⟨c, c1, c2, c3, c4⟩ := hN
        obtain ⟨T, D, y1, y2, y3, y4, y5, y6, y7⟩ := hY
        refine ⟨⟨0, by decide, by rw [hN1, hf]; rfl, by rw [m2]; rfl, fun i hi => ?_⟩, by rw [hN1, hp, hp2], ⟨lim, l1, by rw [hA 0 6 (by decide) (by decide) (by decide) (by unfold SwW Sw5; omega)]; exact l2, by rw [hA 99 16 (by decide) (by decide) (by decide) (by unfold SwW Sw5; omega)]; exact l3⟩, ⟨c, c1, by rw [hA 0 5 (by decide) (by decide) (by decide) (by unfold SwW Sw5; omega)]; exact c2, by rw [hA 99 19 (by decide) (by decide) (by decide) (by unfold SwW Sw5; omega)]; exact c3, fun i hi => by rw [hA 5 i (by decide) (by decide) (by decide) (by unfold SwW Sw5; omega), hA 109 i (by decide) (by decide) (by decide) (by unfold SwW Sw5; omega)]; exact c4 i hi⟩, ⟨T, D, y1, y2, by rw [hA 4 0 (by decide) (by decide) (by decide) (by unfold SwW Sw5; omega)]; exact y3, by rw [hA 99 30 (by decide) (by decide) (by decide) (by unfold SwW Sw5; omega)]; exact y4, by rw [hA 4 1 (by decide) (by decide) (by decide) (by unfold SwW Sw5; omega)]; exact y5, by rw [hA 99 31 (by decide) (by decide) (by decide) (by unfold SwW Sw5; omega)]; exact y6, fun i hi => by rw [hA 14 i (by decide) (by decide) (by decide) (by unfold SwW Sw5; omega), hA 15 i (by decide) (by decide) (by decide) (by unfold SwW Sw5; omega), hA 16 i (by decide) (by decide) (by decide) (by unfold SwW Sw5; omega), hA 116 i (by decide) (by decide) (by decide) (by unfold SwW Sw5; omega), hA 117 i (by decide) (by decide) (by decide) (by unfold SwW Sw5; omega), hA 118 i (by decide) (by decide) (by decide) (by unfold SwW Sw5; omega)]; exact y7 i hi⟩, B, od, bk, dr, hW.keepN (fun a b z1 z2 => hA a b (fun q => z1 (by unfold Sno; omega)) (fun q => z1 (by unfold Sno Scr; omega)) (fun q => z1 (by unfold Sno Scr; omega)) (fun q => by unfold SwW Sw5 at q; unfold Sno Scr at z1; omega))⟩
        rw [hA 7 i (by decide) (by decide) (by decide) (by unfold SwW Sw5; omega), hA 100 i (by decide) (by decide) (by decide) (by unfold SwW Sw5; omega)]
        exact t4 i hi
      · rw [hr] at hr2; cases hr2
    · -- a new work
      cases r
      subst hNN
      obtain ⟨dOk, hOk⟩ := rdS_D hr
      have eC : Eqx (fun a b => a = B.1 + 17 ∨ ((a = 55 ∨ a = 56 ∨ a = 9) ∧ b = B.1) ∨ (a = 2 ∧ (b = 3 ∨ b = 4))) Nc (addC Nc B.1) := by
        unfold addC
        refine (((((Eqx.mu (Eqx.mu (Eqx.mu (Eqx.mu (Eqx.mu ?_ ?_) ?_) ?_) ?_) ?_)))))
        · exact fun a b z => fil_o (fun q => z (Or.inl q))
        all_goals omega
      have e9 : ∀ a b, a ≠ 1 → a ≠ 6 → a ≠ 119 → ¬ (a = B.1 + 17 ∨ ((a = 55 ∨ a = 56 ∨ a = 9) ∧ b = B.1) ∨ (a = 2 ∧ (b = 3 ∨ b = 4))) → mu (addC Nc B.1) 119 0 (nI B.1) a b = M a b := fun a b z1 z2 z3 z4 => by rw [mu_o z3, eC a b z4]; exact hE a b (by unfold S16; omega)
      refine ⟨_, c7 _ (by rw [e9 99 2 (by decide) (by decide) (by decide) (by omega)]; exact t3) (fun i => e9 100 i (by decide) (by decide) (by decide) (by omega)) (by rw [e9 99 14 (by decide) (by decide) (by decide) (by omega)]; exact w0.2.1), RwM_nx, fun v2 N2 q2 => ?_⟩
      rcases q2 with ⟨hx2, _⟩ | ⟨_, h162, _⟩ | ⟨_, _, Nm, hEm, m0, m2, ⟨k', p', hr2, _⟩ | ⟨D', hr2, r, hNN2, hp2, hDM⟩⟩
      · rw [hx] at hx2; cases hx2
      · omega
      · rw [hr] at hr2; cases hr2
      · rw [hr] at hr2
        cases hr2
        cases r
        subst hNN2
        have eM : Eqx (fun a b => (a = 107 ∧ b = B.1) ∨ (a = 99 ∧ (b = 14 ∨ b = 20))) Nm (addM Nm B.1) := by
          unfold addM
          exact ((Eqx.rf.mu (by omega)).mu (by omega)).mu (by omega)
        have k0 : ∀ a b, ¬ ((a = 107 ∧ b = B.1) ∨ (a = 99 ∧ (b = 14 ∨ b = 20))) → ¬ SwW B.1 a b → a ≠ 119 → addM Nm B.1 a b = addC Nc B.1 a b := fun a b z1 z2 z3 => by rw [eM a b z1, hEm a b z2, mu_o z3]
        have hA : ∀ a b, a ≠ 1 → a ≠ 6 → a ≠ 119 → ¬ SwW B.1 a b → ¬ (a = B.1 + 17 ∨ ((a = 55 ∨ a = 56 ∨ a = 9) ∧ b = B.1) ∨ (a = 2 ∧ (b = 3 ∨ b = 4))) → ¬ ((a = 107 ∧ b = B.1) ∨ (a = 99 ∧ (b = 14 ∨ b = 20))) → addM Nm B.1 a b = M a b := fun a b z1 z2 z3 z4 z5 z6 => by rw [eM a b z6, hEm a b z4]; exact e9 a b z1 z2 z3 z5
        have hN1 : ∀ b, addM Nm B.1 1 b = Nc 1 b := fun b => by rw [k0 1 b (by omega) (by unfold SwW Sw5; omega) (by decide), eC 1 b (by omega)]
        refine ⟨rfl, by rw [eM 99 0 (by omega)]; exact m0, by rw [eM 119 0 (by omega), hEm 119 0 (by unfold SwW Sw5; omega)]; rfl, ?_⟩
        obtain ⟨lim, l1, l2, l3⟩ := hL
        obtain ⟨c, c1, c2, c3, c4⟩ := hN
        obtain ⟨T, DD, y1, y2, y3, y4, y5, y6, y7⟩ := hY
        have cW : ∀ i, i < 7 → addM Nm B.1 (B.1 + 17) i = Nc 6 i := fun i hi => by
          rw [k0 _ _ (by omega) (by unfold SwW Sw5; omega) (by omega)]
          unfold addC
          rw [mu_o (by omega), mu_o (by omega), mu_o (by omega), mu_o (by omega), mu_o (by omega), fil_i (Nat.zero_le _) (by omega), Nat.sub_zero]
        refine ⟨⟨0, by decide, by rw [hN1, hf]; rfl, by rw [eM 99 2 (by omega), m2]; rfl, fun i hi => ?_⟩, by rw [hN1, hp, eM 99 6 (by omega), hp2], ⟨lim, l1, by rw [hA 0 6 (by decide) (by decide) (by decide) (by unfold SwW Sw5; omega) (by omega) (by omega)]; exact l2, by rw [hA 99 16 (by decide) (by decide) (by decide) (by unfold SwW Sw5; omega) (by omega) (by omega)]; exact l3⟩, ⟨c, c1, by rw [hA 0 5 (by decide) (by decide) (by decide) (by unfold SwW Sw5; omega) (by omega) (by omega)]; exact c2, by rw [hA 99 19 (by decide) (by decide) (by decide) (by unfold SwW Sw5; omega) (by omega) (by omega)]; exact c3, fun i hi => by rw [hA 5 i (by decide) (by decide) (by decide) (by unfold SwW Sw5; omega) (by omega) (by omega), hA 109 i (by decide) (by decide) (by decide) (by unfold SwW Sw5; omega) (by omega) (by omega)]; exact c4 i hi⟩, ⟨T, DD, y1, y2, by rw [hA 4 0 (by decide) (by decide) (by decide) (by unfold SwW Sw5; omega) (by omega) (by omega)]; exact y3, by rw [hA 99 30 (by decide) (by decide) (by decide) (by unfold SwW Sw5; omega) (by omega) (by omega)]; exact y4, by rw [hA 4 1 (by decide) (by decide) (by decide) (by unfold SwW Sw5; omega) (by omega) (by omega)]; exact y5, by rw [hA 99 31 (by decide) (by decide) (by decide) (by unfold SwW Sw5; omega) (by omega) (by omega)]; exact y6, fun i hi => by rw [hA 14 i (by decide) (by decide) (by decide) (by unfold SwW Sw5; omega) (by omega) (by omega), hA 15 i (by decide) (by decide) (by decide) (by unfold SwW Sw5; omega) (by omega) (by omega), hA 16 i (by decide) (by decide) (by decide) (by unfold SwW Sw5; omega) (by omega) (by omega), hA 116 i (by decide) (by decide) (by decide) (by unfold SwW Sw5; omega) (by omega) (by omega), hA 117 i (by decide) (by decide) (by decide) (by unfold SwW Sw5; omega) (by omega) (by omega), hA 118 i (by decide) (by decide) (by decide) (by unfold SwW Sw5; omega) (by omega) (by omega)]; exact y7 i hi⟩, _, _, _, _, InW_add hW hlt dOk hOk (fun a b z1 z2 z3 z4 z5 z6 => hA a b (fun q => z1 (by unfold Sno; omega)) (fun q => z1 (by unfold Sno Scr; omega)) (fun q => z1 (by unfold Sno Scr; omega)) (fun q => by unfold SwW Sw5 at q; unfold Sno Scr at z1; omega) (by omega) (by omega)) ?_ ?_ rfl rfl ?_ ?_ ?_ ?_ (by rw [cW 0 (by decide)]; exact hDC.1) (by rw [cW 1 (by decide)]; exact hDC.2.1) (by rw [cW 2 (by decide)]; exact hDC.2.2.1) (by rw [cW 3 (by decide)]; exact hDC.2.2.2.1) (by rw [cW 4 (by decide)]; exact hDC.2.2.2.2.1) (fun i hi => by rw [cW 5 (by decide)]; exact hDC.2.2.2.2.2.1 i hi) (by rw [cW 6 (by decide)]; exact hDC.2.2.2.2.2.2) (by rw [eM 101 B.1 (by omega)]; exact (hDM.1 rfl).1) (by rw [eM 102 B.1 (by omega)]; exact (hDM.1 rfl).2) (by rw [eM 103 B.1 (by omega)]; exact hDM.2.1) (by rw [eM 104 B.1 (by omega)]; exact hDM.2.2.1) (by rw [eM 105 B.1 (by omega)]; exact hDM.2.2.2.1) (fun i hi => by rw [eM 106 B.1 (by omega)]; exact hDM.2.2.2.2 i hi)⟩
        · rw [hA 7 i (by decide) (by decide) (by decide) (by unfold SwW Sw5; omega) (by omega) (by omega), hA 100 i (by decide) (by decide) (by decide) (by unfold SwW Sw5; omega) (by omega) (by omega)]
          exact t4 i hi
        · rw [k0 2 3 (by omega) (by unfold SwW Sw5; omega) (by decide)]; rfl
        · rw [k0 2 4 (by omega) (by unfold SwW Sw5; omega) (by decide)]; rfl
        · rw [k0 55 B.1 (by omega) (by unfold SwW Sw5; omega) (by decide)]
          unfold addC
          rw [mu_o (by decide), mu_o (by decide), mu_o (by decide), mu_o (by decide), mu_at, if_pos rfl, if_pos rfl]; exact hDC.1
        · rw [k0 56 B.1 (by omega) (by unfold SwW Sw5; omega) (by decide)]
          unfold addC
          rw [mu_o (by decide), mu_o (by decide), mu_o (by decide), mu_at, if_pos rfl, if_pos rfl]; exact hDC.2.1
        · rw [k0 9 B.1 (by omega) (by unfold SwW Sw5; omega) (by decide)]
          unfold addC
          rw [mu_o (by decide), mu_o (by decide), mu_at, if_pos rfl, if_pos rfl]
        · unfold addM
          rw [mu_o (by decide), mu_o (by decide), mu_at, if_pos rfl, if_pos rfl]
  · rcases q with ⟨hx, r, hNN⟩ | ⟨hx, h16e, r, hNN⟩ | ⟨_, _, _, _, _, ⟨_, _, _, _, _, r, _⟩ | ⟨_, _, r, _⟩⟩
    · cases r
      subst hNN
      refine ⟨_, c7 N t3 (fun _ => rfl) w0.2.1, RwM_nx, fun v2 N2 q2 => ?_⟩
      rcases q2 with ⟨_, r, hN2⟩ | ⟨hx2, _⟩ | ⟨hx2, _⟩
      · cases r; subst hN2; exact ⟨⟨_, rfl⟩, rfl, h.mk0⟩
      · rw [hx] at hx2; cases hx2
      · rw [hx] at hx2; cases hx2
    · cases r
      subst hNN
      refine ⟨_, c7 N t3 (fun _ => rfl) w0.2.1, RwM_nx, fun v2 N2 q2 => ?_⟩
      rcases q2 with ⟨hx2, _⟩ | ⟨_, _, r, hN2⟩ | ⟨_, hlt, _⟩
      · rw [hx] at hx2; cases hx2
      · cases r; subst hN2; exact ⟨⟨_, rfl⟩, rfl, h.mk0⟩
      · omega
    · cases r
    · cases r
