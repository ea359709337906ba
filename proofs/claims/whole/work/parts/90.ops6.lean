theorem hsN_cg {f g : Nat → Int32} {x : Int32} : ∀ {t : Nat}, (∀ i, i < t → f i = g i) → hsN f x t = hsN g x t
  | 0, _ => rfl
  | t + 1, h => by rw [hsN, hsN, hsN_cg (t := t) (fun i hi => h i (by omega)), h t (by omega)]
theorem pfN_cg {f g : Nat → Int32} {x : Int32} : ∀ {t : Nat}, (∀ i, i < t → f i = g i) → pfN f x t = pfN g x t
  | 0, _ => rfl
  | t + 1, h => by
    rw [pfN, pfN, pfN_cg (t := t) (fun i hi => h i (by omega)), h t (by omega)]
    cases q : pfN g x t with
    | none => rfl
    | some c =>
      have := pfN_lt q
      simp only
      rw [h c (by omega)]
set_option maxHeartbeats 4000000 in
theorem op_train {l : Launch} {E : EnT} (hst : l.stackTraces = false) {M : Mem} (h : Inv M) (n : Int32) : OpX l E mX6_train mX7_train 6 1 [.int n] (fun C => C = xIA) kL_train M := by
  obtain ⟨hT, h2, hL, hN, ⟨T, D, y1, y2, y3, y4, y5, y6, y7⟩, B, od, bk, dr, hW⟩ := id h
  have c6 := c_X6_train (E := E) hst n M T D y3 y5 y1 y2
  unfold trC at c6
  by_cases hx : n < 0 ∨ 1000 < n
  · rw [if_pos hx] at c6
    have c7 := c_X7_train (E := E) hst n M T D y4 y6 y1 y2
    unfold trR at c7
    rw [if_pos hx] at c7
    exact OpX_t c6 rfl c7 rfl h.mk0
  · rw [if_neg hx] at c6
    by_cases h30 : T = 30
    · rw [if_pos h30] at c6
      have c7 := c_X7_train (E := E) hst n (mu M 119 0 (-1)) T D y4 y6 y1 y2
      unfold trR at c7
      rw [if_neg hx, if_pos h30] at c7
      exact OpX_i c6 c7 rfl rfl h.o.m0
    · rw [if_neg h30] at c6
      have hs : hsN (M 14) n T = hsN (M 116) n T := hsN_cg (fun i hi => (y7 i (by omega)).1)
      cases hh : hsN (M 116) n T with
      | true =>
        rw [hs, hh] at c6
        have c7 := c_X7_train (E := E) hst n (mu M 119 0 (-2)) T D y4 y6 y1 y2
        unfold trR at c7
        rw [if_neg hx, if_neg h30, show hsN (mu M 119 0 (-2) 116) n T = true from hh] at c7
        exact OpX_i c6 c7 rfl rfl h.o.m0
      | false =>
        rw [hs, hh] at c6
        have hp : pfN (M 16) n D = pfN (M 118) n D := pfN_cg (fun i hi => (y7 i (by omega)).2.2)
        unfold tkM at c6
        rw [hp] at c6
        simp only [if_false, Bool.false_eq_true] at c6
        cases q : pfN (M 118) n D with
        | none =>
          rw [q] at c6
          simp only [Option.getD_none] at c6
          have c7 := c_X7_train (E := E) hst n (mu (mu (mu (mu (mu (mu M 4 1 (nI (D + 1))) 16 D n) 14 T n) 15 T (nI D)) 4 0 (nI (T + 1))) 119 0 (nI D)) T D y4 y6 y1 y2
          unfold trR tkM at c7
          rw [if_neg hx, if_neg h30, show hsN (mu (mu (mu (mu (mu (mu M 4 1 (nI (D + 1))) 16 D n) 14 T n) 15 T (nI D)) 4 0 (nI (T + 1))) 119 0 (nI D) 116) n T = false from hh] at c7
          simp only [if_false, Bool.false_eq_true] at c7
          rw [show pfN (mu (mu (mu (mu (mu (mu M 4 1 (nI (D + 1))) 16 D n) 14 T n) 15 T (nI D)) 4 0 (nI (T + 1))) 119 0 (nI D) 118) n D = none from q, show pfN (mu (mu (mu (mu (mu (mu (mu M 4 1 (nI (D + 1))) 16 D n) 14 T n) 15 T (nI D)) 4 0 (nI (T + 1))) 119 0 (nI D)) 99 0 0 118) n D = none from q] at c7
          simp only [Option.getD_none] at c7
          refine OpX_i c6 c7 rfl rfl ?_
          refine Inv_of h (((((((((((((Eqx.rf.mu (by unfold Sno; omega)).mu (by unfold Sno; omega)).mu (by unfold Sno; omega)).mu (by unfold Sno; omega)).mu (by unfold Sno; omega)).mu (by unfold Sno Scr; omega)).mu (by unfold Sno Scr; omega)).mu (by unfold Sno; omega)).mu (by unfold Sno; omega)).mu (by unfold Sno; omega)).mu (by unfold Sno; omega)).mu (by unfold Sno; omega))) (hT.keep rfl rfl rfl rfl) h2 (hL.keep rfl rfl) (hN.keep rfl rfl rfl rfl) ⟨T + 1, D + 1, by omega, by omega, rfl, rfl, rfl, rfl, fun i hi => ?_⟩
          obtain ⟨z1, z2, z3⟩ := y7 i hi
          refine ⟨?_, ?_, ?_⟩
          · show (if i = T then n else M 14 i) = (if i = T then n else M 116 i)
            rw [z1]
          · show (if i = T then nI D else M 15 i) = (if i = T then nI D else M 117 i)
            rw [z2]
          · show (if i = D then n else M 16 i) = (if i = D then n else M 118 i)
            rw [z3]
        | some s =>
          have hsl := pfN_lt q
          rw [q] at c6
          simp only [Option.getD_some] at c6
          have c7 := c_X7_train (E := E) hst n (mu (mu (mu (mu (mu M 16 s n) 14 T n) 15 T (nI s)) 4 0 (nI (T + 1))) 119 0 (nI s)) T D y4 y6 y1 y2
          unfold trR tkM at c7
          rw [if_neg hx, if_neg h30, show hsN (mu (mu (mu (mu (mu M 16 s n) 14 T n) 15 T (nI s)) 4 0 (nI (T + 1))) 119 0 (nI s) 116) n T = false from hh] at c7
          simp only [if_false, Bool.false_eq_true] at c7
          rw [show pfN (mu (mu (mu (mu (mu M 16 s n) 14 T n) 15 T (nI s)) 4 0 (nI (T + 1))) 119 0 (nI s) 118) n D = some s from q, show pfN (mu (mu (mu (mu (mu (mu M 16 s n) 14 T n) 15 T (nI s)) 4 0 (nI (T + 1))) 119 0 (nI s)) 99 0 0 118) n D = some s from q] at c7
          simp only [Option.getD_some] at c7
          refine OpX_i c6 c7 rfl rfl ?_
          refine Inv_of h (((((((((((Eqx.rf.mu (by unfold Sno; omega)).mu (by unfold Sno; omega)).mu (by unfold Sno; omega)).mu (by unfold Sno; omega)).mu (by unfold Sno Scr; omega)).mu (by unfold Sno Scr; omega)).mu (by unfold Sno; omega)).mu (by unfold Sno; omega)).mu (by unfold Sno; omega)).mu (by unfold Sno; omega))) (hT.keep rfl rfl rfl rfl) h2 (hL.keep rfl rfl) (hN.keep rfl rfl rfl rfl) ⟨T + 1, D, by omega, by omega, rfl, rfl, y5, y6, fun i hi => ?_⟩
          obtain ⟨z1, z2, z3⟩ := y7 i hi
          refine ⟨?_, ?_, ?_⟩
          · show (if i = T then n else M 14 i) = (if i = T then n else M 116 i)
            rw [z1]
          · show (if i = T then nI s else M 15 i) = (if i = T then nI s else M 117 i)
            rw [z2]
          · show (if i = s then n else M 16 i) = (if i = s then n else M 118 i)
            rw [z3]
