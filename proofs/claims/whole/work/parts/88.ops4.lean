/-- the places that the works look at -/
def Swk (a b : Nat) : Prop := (a = 2 ∧ (b = 3 ∨ b = 5)) ∨ (17 ≤ a ∧ a < 33) ∨ (55 ≤ a ∧ a < 77) ∨ (a = 99 ∧ (b = 14 ∨ b = 15)) ∨ (101 ≤ a ∧ a ≤ 106) ∨ a = 110
theorem WC.keepW {P : Pb} {M N : Mem} {r : Nat} (h : WC P M r) (hr : r < 22) (he : ∀ a b, Swk a b → N a b = M a b) : WC P N r := by
  obtain ⟨h1, h2, h3, h4, h5⟩ := h
  refine ⟨by rw [he 2 3 (by unfold Swk; omega)]; exact h1, h2, by rw [he 2 5 (by unfold Swk; omega)]; exact h3, h4, fun w hw => ?_⟩
  obtain ⟨g1, g2, g3, g4, g5, g6, g7⟩ := h5 w hw
  exact ⟨by rw [he (w + 17) 3 (by unfold Swk; omega)]; exact g1, g2, by rw [he (w + 17) 6 (by unfold Swk; omega)]; exact g3, g4, by rw [he (w + 17) 5 (by unfold Swk; omega)]; exact g5, by rw [he (r + 55) w (by unfold Swk; omega)]; exact g6, g7⟩
theorem WM.keepW {P : Pb} {M N : Mem} {r : Nat} (h : WM P M r) (he : ∀ a b, Swk a b → N a b = M a b) : WM P N r := by
  obtain ⟨h1, h2, h3, h4, h5⟩ := h
  have hh : ∀ w, hrM N r w = hrM M r w := fun w => by
    unfold hrM
    rw [he 101 w (by unfold Swk; omega), he 102 w (by unfold Swk; omega), he 110 (16 * (r - 2) + w) (by unfold Swk; omega)]
  refine ⟨by rw [he 99 14 (by unfold Swk; omega)]; exact h1, h2, by rw [he 99 15 (by unfold Swk; omega)]; exact h3, h4, fun w hw => ?_⟩
  obtain ⟨g1, g2, g3, g4, g5, g6, g7⟩ := h5 w hw
  exact ⟨by rw [he 104 w (by unfold Swk; omega)]; exact g1, g2, by rw [he 103 w (by unfold Swk; omega)]; exact g3, g4, by rw [he 106 w (by unfold Swk; omega)]; exact g5, by rw [hh]; exact g6, g7⟩
theorem RB_nx {B : Bw} {od : Nat → Nat} {Q0 : Mem → Prop} {Q1 : (Nat → Nat) → Mem → Prop} : ∀ C N, ¬ RB B od Q0 Q1 (.inr C) N := fun C N h => by
  rcases h with ⟨_, f, _, h, _⟩ | ⟨_, h, _⟩ <;> cases h
set_option maxHeartbeats 4000000 in
theorem op_best {l : Launch} {E : EnT} (hst : l.stackTraces = false) {M : Mem} (h : Inv M) : OpV l E mX6_best mX7_best 15 2 [] M := by
  obtain ⟨hT, h2, hL, hN, hY, B, od, bk, dr, hW⟩ := id h
  obtain ⟨g1, g2, g3, g4, g5, g6, g7, g8, g9, g10, g11, kc, k1, k2, k3, k4⟩ := id hW
  have w0 := g4 0 (by omega)
  have w1 := g4 1 (by omega)
  have h16 : B.1 ≤ 16 := w0.1.2.1
  have hc60 : B.2.2.2.2.2 ≤ 60 := w0.1.2.2.2.1
  have hcrew : M 2 5 = nI B.2.2.2.2.2 := w0.1.2.2.1
  have hK : M 3 4 = M 2 3 → M 3 5 = M 2 5 → Kn B M := fun q1 q2 => by
    have e0 : nI kc = nI B.2.2.2.2.2 := by rw [← k1, q2, hcrew]
    have e : kc = B.2.2.2.2.2 := by
      rcases k2 with k2 | k2
      · exact (nI_eq (by omega) (by omega)).mp e0
      · exfalso
        rw [k2, show nI 4294967295 = -1 by decide +kernel] at e0
        exact nI_m1ne (by omega) e0
    have := k4 (q1.trans w0.1.1)
    rw [e] at this
    exact this
  refine ⟨_, c_X6_best hst M B od g5 g7 w0.1 w1.1 (fun k hk => (g6 k hk).1) hK, RB_nx, fun v N q => ?_⟩
  have c7 : ∀ N, (∀ a b, Swk a b → N a b = M a b) → (∀ k, k < B.1 → N 107 k = nI (od k)) → Mm l E mX7_best 2 0 0 [.ref 99] N (RB B od (fun N2 => Eqx Se N N2 ∧ N2 99 0 = 0) (fun f N2 => Eqx Sbm N N2 ∧ N2 99 0 = 0 ∧ ∀ k, k < B.1 → N2 107 k = nI (f k))) := fun N e1 e2 => c_X7_best hst N B od g5 g7 (w0.2.keepW e1) (w1.2.keepW e1) e2
  rcases q with ⟨hc, f, hf, r, hE, n9, hKn, n34, n35⟩ | ⟨hc, r, hE⟩
  · cases r
    have e1 : ∀ a b, Swk a b → N a b = M a b := fun a b z => hE a b (fun y => by unfold Swk at z; unfold Sbt Sf SjT Sj at y; omega)
    refine ⟨_, _, rfl, c7 N e1 (fun k hk => by rw [hE 107 k (by unfold Sbt Sf SjT Sj; omega)]; exact (g6 k hk).2), RB_nx, fun v2 N2 q2 => ?_⟩
    rcases q2 with ⟨_, g, hg, r, hE2, z0, n107⟩ | ⟨hc2, _⟩
    · cases r
      obtain ⟨u1, u2⟩ := Fst_uniq hf hg
      refine ⟨by rw [u2], ?_⟩
      have hA : ∀ a b, ¬ (Sbt a b ∨ Sbm a b) → N2 a b = M a b := fun a b z => by rw [hE2 a b (fun y => z (Or.inr y)), hE a b (fun y => z (Or.inl y))]
      have e3 : ∀ a b, Swk a b → N2 a b = M a b := fun a b z => hA a b (fun y => by unfold Swk at z; unfold Sbt Sf SjT Sj Sbm Se at y; omega)
      have hX : ∀ a b, ¬ (Sbt a b ∨ Sbm a b) → N2 a b = M a b := hA
      obtain ⟨t, t1, t2, t3, t4⟩ := hT
      obtain ⟨lim, l1, l2, l3⟩ := hL
      obtain ⟨c, c1, c2, c3, c4⟩ := hN
      obtain ⟨T, D, y1, y2, y3, y4, y5, y6, y7⟩ := hY
      refine ⟨⟨t, t1, by rw [hA 1 1 (by unfold Sbt Sf SjT Sj Sbm Se; omega)]; exact t2, by rw [hA 99 2 (by unfold Sbt Sf SjT Sj Sbm Se; omega)]; exact t3, fun i hi => by rw [hA 7 i (by unfold Sbt Sf SjT Sj Sbm Se; omega), hA 100 i (by unfold Sbt Sf SjT Sj Sbm Se; omega)]; exact t4 i hi⟩, by rw [hA 1 2 (by unfold Sbt Sf SjT Sj Sbm Se; omega), hA 99 6 (by unfold Sbt Sf SjT Sj Sbm Se; omega)]; exact h2, ⟨lim, l1, by rw [hA 0 6 (by unfold Sbt Sf SjT Sj Sbm Se; omega)]; exact l2, by rw [hA 99 16 (by unfold Sbt Sf SjT Sj Sbm Se; omega)]; exact l3⟩, ⟨c, c1, by rw [hA 0 5 (by unfold Sbt Sf SjT Sj Sbm Se; omega)]; exact c2, by rw [hA 99 19 (by unfold Sbt Sf SjT Sj Sbm Se; omega)]; exact c3, fun i hi => by rw [hA 5 i (by unfold Sbt Sf SjT Sj Sbm Se; omega), hA 109 i (by unfold Sbt Sf SjT Sj Sbm Se; omega)]; exact c4 i hi⟩, ⟨T, D, y1, y2, by rw [hA 4 0 (by unfold Sbt Sf SjT Sj Sbm Se; omega)]; exact y3, by rw [hA 99 30 (by unfold Sbt Sf SjT Sj Sbm Se; omega)]; exact y4, by rw [hA 4 1 (by unfold Sbt Sf SjT Sj Sbm Se; omega)]; exact y5, by rw [hA 99 31 (by unfold Sbt Sf SjT Sj Sbm Se; omega)]; exact y6, fun i hi => by rw [hA 14 i (by unfold Sbt Sf SjT Sj Sbm Se; omega), hA 15 i (by unfold Sbt Sf SjT Sj Sbm Se; omega), hA 16 i (by unfold Sbt Sf SjT Sj Sbm Se; omega), hA 116 i (by unfold Sbt Sf SjT Sj Sbm Se; omega), hA 117 i (by unfold Sbt Sf SjT Sj Sbm Se; omega), hA 118 i (by unfold Sbt Sf SjT Sj Sbm Se; omega)]; exact y7 i hi⟩, B, f, bk, dr, ?_⟩
      have b34 : N2 3 4 = nI B.1 := by rw [hE2 3 4 (by unfold Sbm Se; omega), n34]; exact w0.1.1
      refine ⟨g1, by rw [hA 2 4 (by unfold Sbt Sf SjT Sj Sbm Se; omega)]; exact g2, by rw [hA 99 20 (by unfold Sbt Sf SjT Sj Sbm Se; omega)]; exact g3, fun r hr => ⟨(g4 r hr).1.keepW (by omega) e3, (g4 r hr).2.keepW e3⟩, hf.1, fun k hk => ⟨by rw [hE2 9 k (by unfold Sbm Se; omega)]; exact n9 k hk, by rw [n107 k hk, u1 k hk]⟩, g7, fun w hw i hi => by rw [e3 (w + 17) i (by unfold Swk; omega), e3 (101 + i) w (by unfold Swk; omega)]; exact g8 w hw i hi, fun w hw => by rw [e3 105 w (by unfold Swk; omega)]; exact g9 w hw, g10, g11, B.2.2.2.2.2, by rw [hE2 3 5 (by unfold Sbm Se; omega), n35]; exact hcrew, Or.inl hc60, Or.inr ⟨B.1, Nat.le_refl _, b34⟩, fun _ => ?_⟩
      exact Kn_keep hKn (hE2 3 1 (by unfold Sbm Se; omega)) (fun k _ => hE2 12 k (by unfold Sbm Se; omega))
    · exact absurd hc hc2
  · cases r
    have hS : Eqx Scr M N := hE.mono (fun a b z => by unfold Sx at z; unfold Scr; omega)
    refine ⟨_, _, rfl, c7 N (fun a b z => hS a b (fun y => by unfold Swk at z; unfold Scr at y; omega)) (fun k hk => by rw [hS 107 k (by unfold Scr; omega)]; exact (g6 k hk).2), RB_nx, fun v2 N2 q2 => ?_⟩
    rcases q2 with ⟨hc2, _⟩ | ⟨_, r, hE2, _⟩
    · exact absurd hc2 hc
    · cases r
      exact ⟨rfl, (h.keep hS).keep (hE2.mono (fun _ _ z => Se_Scr z))⟩
