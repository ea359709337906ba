theorem OpX_RQ {l : Launch} {E : EnT} {y6 y7 : MT} {d6 d7 : Nat} {as : List Value} {ok : String → Prop} {code : String → Int32} {M : Mem} {r : Option Value ⊕ String} {j z : Int32} (h : Inv M) (c6 : Mm l E y6 d6 1 6 (.ref 0 :: as) M (RQ r (fun N => Eqx Sw M N))) (c7 : ∀ N, Eqx Scr M N → Mm l E y7 d7 0 0 (.ref 99 :: as) N (RP (some (.int j)) (fun N2 => Eqx Se N N2 ∧ N2 99 0 = z))) (hr : (r = .inl (some (.int j)) ∧ z = 0) ∨ (∃ C, r = .inr C ∧ ok C ∧ z = code C)) : OpX l E y6 y7 d6 d7 as ok code M := by
  refine ⟨_, c6, fun v N q => ?_, fun C N q => ?_, fun i N q => ?_, fun C N q => ?_⟩
  · obtain ⟨q1, q2⟩ := q
    rcases hr with ⟨r1, _⟩ | ⟨C, r1, _, _⟩
    · rw [r1] at q1; cases q1; exact ⟨_, rfl⟩
    · rw [r1] at q1; cases q1
  · obtain ⟨q1, q2⟩ := q
    rcases hr with ⟨r1, _⟩ | ⟨C, r1, r2, _⟩
    · rw [r1] at q1; cases q1
    · rw [r1] at q1; cases q1; exact r2
  · obtain ⟨q1, q2⟩ := q
    rcases hr with ⟨r1, r2⟩ | ⟨C, r1, _, _⟩
    · rw [r1] at q1
      cases q1
      have hS : Eqx Scr M (mu N 119 0 j) := (q2.mono (fun _ _ z => Sw_Scr z)).mu (by unfold Scr; omega)
      refine ⟨_, c7 _ hS, RP_nx, fun v2 N2 w => ?_⟩
      obtain ⟨z1, z2, z3⟩ := w
      cases z1
      exact ⟨rfl, z3.trans r2, by rw [z2 119 0 (by unfold Se; omega)]; rfl, (h.keep hS).keep (z2.mono (fun _ _ z => Se_Scr z))⟩
    · rw [r1] at q1; cases q1
  · obtain ⟨q1, q2⟩ := q
    rcases hr with ⟨r1, r2⟩ | ⟨C', r1, r2, r3⟩
    · rw [r1] at q1; cases q1
    · rw [r1] at q1
      cases q1
      have hS : Eqx Scr M N := q2.mono (fun _ _ z => Sw_Scr z)
      refine ⟨_, c7 _ hS, RP_nx, fun v2 N2 w => ?_⟩
      obtain ⟨z1, z2, z3⟩ := w
      cases z1
      exact ⟨⟨_, rfl⟩, z3.trans r3, (h.keep hS).keep (z2.mono (fun _ _ z => Se_Scr z))⟩
theorem op_begins {l : Launch} {E : EnT} (hst : l.stackTraces = false) {M : Mem} (h : Inv M) (x w : Int32) : OpX l E mX6_begins mX7_begins 6 2 [.int x, .int w] (fun C => C = xIO ∨ C = xIA) kL_begins M := by
  obtain ⟨B, od, bk, dr, hW⟩ := h.2.2.2.2.2
  have w0 := hW.2.2.2.1 0 (by omega)
  refine OpX_RQ h (c_X6_begins hst M B od dr x w w0.1.1 hW.2.1 hW.1 (fun r hr => (hW.2.2.2.1 r hr).1) (fun k hk => ⟨(hW.2.2.2.2.2.1 k hk).1, hW.2.2.2.2.1.1 k hk⟩)) (fun N hN => c_X7_begins hst N B od dr x w ((hW.keep hN).2.2.2.1 0 (by omega)).2.1 (hW.keep hN).2.2.1 hW.1 (fun r hr => ((hW.keep hN).2.2.2.1 r hr).2) (fun k hk => ⟨((hW.keep hN).2.2.2.2.2.1 k hk).2, hW.2.2.2.2.1.1 k hk⟩)) ?_
  cases ixB w B.1 with
  | false => exact Or.inr ⟨xIO, rfl, Or.inl rfl, rfl⟩
  | true =>
    cases ixB x (dr + 2) with
    | false => exact Or.inr ⟨xIA, rfl, Or.inr rfl, rfl⟩
    | true => exact Or.inl ⟨rfl, rfl⟩
theorem op_off {l : Launch} {E : EnT} (hst : l.stackTraces = false) {M : Mem} (h : Inv M) (x : Int32) : OpX l E mX6_off mX7_off 6 3 [.int x] (fun C => C = xIA) kL_off M := by
  obtain ⟨lim, l1, l2, l3⟩ := h.2.2.1
  obtain ⟨B, od, bk, dr, hW⟩ := h.2.2.2.2.2
  have w0 := hW.2.2.2.1 0 (by omega)
  refine OpX_RQ h (c_X6_off hst M B od dr lim bk x w0.1.1 hW.2.1 hW.1 (fun r hr => (hW.2.2.2.1 r hr).1) (fun k hk => ⟨(hW.2.2.2.2.2.1 k hk).1, hW.2.2.2.2.1.1 k hk⟩) l2 l1 hW.bk6 hW.2.2.2.2.2.2.2.2.2.1) (fun N hN => c_X7_off hst N B od dr lim bk x ((hW.keep hN).2.2.2.1 0 (by omega)).2.1 (hW.keep hN).2.2.1 hW.1 (fun r hr => ((hW.keep hN).2.2.2.1 r hr).2) (fun k hk => ⟨((hW.keep hN).2.2.2.2.2.1 k hk).2, hW.2.2.2.2.1.1 k hk⟩) (by rw [hN 99 16 (by unfold Scr; omega)]; exact l3) l1 (hW.keep hN).2.2.2.2.2.2.2.2.1 hW.2.2.2.2.2.2.2.2.2.1) ?_
  cases ixB x 1001 with
  | false => exact Or.inr ⟨xIA, rfl, rfl, rfl⟩
  | true => exact Or.inl ⟨rfl, rfl⟩
/-- where the works are not looked at, the rest is said anew -/
theorem Inv_of {M N : Mem} (h : Inv M) (hE : Eqx Sno M N) (h1 : InT N) (h2 : N 1 2 = N 99 6) (h3 : InL N) (h4 : InN N) (h5 : InY N) : Inv N := by
  obtain ⟨B, od, bk, dr, hW⟩ := h.2.2.2.2.2
  exact ⟨h1, h2, h3, h4, h5, B, od, bk, dr, hW.keepX hE⟩
theorem InT.keep {M N : Mem} (h : InT M) (e1 : N 1 1 = M 1 1) (e2 : N 99 2 = M 99 2) (e3 : N 7 = M 7) (e4 : N 100 = M 100) : InT N := by
  unfold InT
  rw [e1, e2, e3, e4]; exact h
theorem InL.keep {M N : Mem} (h : InL M) (e1 : N 0 6 = M 0 6) (e2 : N 99 16 = M 99 16) : InL N := by
  unfold InL
  rw [e1, e2]; exact h
theorem InN.keep {M N : Mem} (h : InN M) (e1 : N 0 5 = M 0 5) (e2 : N 99 19 = M 99 19) (e3 : N 5 = M 5) (e4 : N 109 = M 109) : InN N := by
  unfold InN
  rw [e1, e2, e3, e4]; exact h
theorem op_leave {l : Launch} {E : EnT} (hst : l.stackTraces = false) {M : Mem} (h : Inv M) : OpV l E mX6_leave mX7_leave 1 0 [] M := by
  obtain ⟨T, D, y1, y2, y3, y4, y5, y6, y7⟩ := h.2.2.2.2.1
  refine OpV_Rt (c_X6_leave hst M) (c_X7_leave hst _) (by show M 4 0 = M 99 30; rw [y3, y4]) ?_
  refine Inv_of h (((((Eqx.rf.mu (by unfold Sno; omega)).mu (by unfold Sno; omega)).mu (by unfold Sno Scr; omega)).mu (by unfold Sno; omega)).mu (by unfold Sno; omega)) (h.1.keep rfl rfl rfl rfl) h.2.1 (h.2.2.1.keep rfl rfl) (h.2.2.2.1.keep rfl rfl rfl rfl) ⟨0, 0, by decide, by decide, rfl, rfl, rfl, rfl, fun i hi => y7 i hi⟩
