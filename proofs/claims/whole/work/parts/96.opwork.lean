theorem InW.keepN {B : Bw} {od : Nat → Nat} {bk : Nat → Option Nat} {dr : Nat} {M N : Mem} (h : InW B od bk dr M) (he : ∀ a b, ¬ Sno a b → ¬ (101 ≤ a ∧ a ≤ 106 ∧ b = B.1) → N a b = M a b) : InW B od bk dr N := by
  obtain ⟨h1, h2, h3, h4, h5, h6, h7, h8, h9, h10, h11, kc, k1, k2, k3, k4⟩ := h
  have h16 : B.1 ≤ 16 := (h4 0 (by omega)).1.2.1
  refine ⟨h1, by rw [he 2 4 (by unfold Sno Scr; omega) (by omega)]; exact h2, by rw [he 99 20 (by unfold Sno Scr; omega) (by omega)]; exact h3, fun r hr => ⟨?_, ?_⟩, h5, fun k hk => ?_, h7, fun w hw i hi => ?_, fun w hw => ?_, h10, h11, kc, ?_, k2, ?_, fun q => ?_⟩
  · obtain ⟨u1, u2, u3, u4, u5⟩ := (h4 r hr).1
    refine ⟨by rw [he 2 3 (by unfold Sno Scr; omega) (by omega)]; exact u1, u2, by rw [he 2 5 (by unfold Sno Scr; omega) (by omega)]; exact u3, u4, fun w hw => ?_⟩
    have hw : w < B.1 := hw
    obtain ⟨g1, g2, g3, g4, g5, g6, g7⟩ := u5 w hw
    exact ⟨by rw [he (w + 17) 3 (by unfold Sno Scr; omega) (by omega)]; exact g1, g2, by rw [he (w + 17) 6 (by unfold Sno Scr; omega) (by omega)]; exact g3, g4, by rw [he (w + 17) 5 (by unfold Sno Scr; omega) (by omega)]; exact g5, by rw [he (r + 55) w (by unfold Sno Scr; omega) (by omega)]; exact g6, g7⟩
  · obtain ⟨u1, u2, u3, u4, u5⟩ := (h4 r hr).2
    refine ⟨by rw [he 99 14 (by unfold Sno Scr; omega) (by omega)]; exact u1, u2, by rw [he 99 15 (by unfold Sno Scr; omega) (by omega)]; exact u3, u4, fun w hw => ?_⟩
    have hw : w < B.1 := hw
    obtain ⟨g1, g2, g3, g4, g5, g6, g7⟩ := u5 w hw
    have hh : hrM N r w = hrM M r w := by
      unfold hrM
      rw [he 101 w (by unfold Sno Scr; omega) (by omega), he 102 w (by unfold Sno Scr; omega) (by omega), he 110 (16 * (r - 2) + w) (by unfold Sno Scr; omega) (by omega)]
    exact ⟨by rw [he 104 w (by unfold Sno Scr; omega) (by omega)]; exact g1, g2, by rw [he 103 w (by unfold Sno Scr; omega) (by omega)]; exact g3, g4, by rw [he 106 w (by unfold Sno Scr; omega) (by omega)]; exact g5, by rw [hh]; exact g6, g7⟩
  · rw [he 9 k (by unfold Sno Scr; omega) (by omega), he 107 k (by unfold Sno Scr; omega) (by omega)]; exact h6 k hk
  · rw [he (w + 17) i (by unfold Sno Scr; omega) (by omega), he (101 + i) w (by unfold Sno Scr; omega) (by omega)]; exact h8 w hw i hi
  · rw [he 105 w (by unfold Sno Scr; omega) (by omega)]; exact h9 w hw
  · rw [he 3 5 (by unfold Sno Scr; omega) (by omega)]; exact k1
  · rw [he 3 4 (by unfold Sno Scr; omega) (by omega)]; exact k3
  · rw [he 3 4 (by unfold Sno Scr; omega) (by omega)] at q
    exact Kn_keep (k4 q) (he 3 1 (by unfold Sno Scr; omega) (by omega)) (fun k _ => he 12 k (by unfold Sno Scr; omega) (by omega))
/-- the works with one more -/
def addB (B : Bw) (D : Dr) : Bw := (B.1 + 1, fun r w => if w = B.1 then (if r = 0 then D.1 else D.2.1) else B.2.1 r w, fun w => if w = B.1 then D.2.2.1 else B.2.2.1 w, fun w => if w = B.1 then D.2.2.2.1 else B.2.2.2.1 w, fun w o => if w = B.1 then D.2.2.2.2.2 o else B.2.2.2.2.1 w o, B.2.2.2.2.2)
set_option maxHeartbeats 8000000 in
theorem InW_add {B : Bw} {od : Nat → Nat} {bk : Nat → Option Nat} {dr : Nat} {M N : Mem} {D : Dr} (h : InW B od bk dr M) (hn : B.1 < 16) (hD : DOk B.1 D) (hH : HOk D)
    (e : ∀ a b, ¬ Sno a b → ¬ (101 ≤ a ∧ a ≤ 106 ∧ b = B.1) → a ≠ B.1 + 17 → ¬ ((a = 55 ∨ a = 56 ∨ a = 9 ∨ a = 107) ∧ b = B.1) → ¬ (a = 2 ∧ (b = 3 ∨ b = 4)) → ¬ (a = 99 ∧ (b = 14 ∨ b = 20)) → N a b = M a b)
    (n3 : N 2 3 = nI (B.1 + 1)) (n4 : N 2 4 = 0) (n14 : N 99 14 = nI (B.1 + 1)) (n20 : N 99 20 = 0) (n55 : N 55 B.1 = nI D.1) (n56 : N 56 B.1 = nI D.2.1) (n9 : N 9 B.1 = nI B.1) (n107 : N 107 B.1 = nI B.1)
    (q0 : N (B.1 + 17) 0 = nI D.1) (q1 : N (B.1 + 17) 1 = nI D.2.1) (q2 : N (B.1 + 17) 2 = nI D.2.2.1) (q3 : N (B.1 + 17) 3 = nI D.2.2.2.1) (q4 : N (B.1 + 17) 4 = enI D.2.2.2.2.1) (q5 : ∀ i, i < 32 → bt (N (B.1 + 17) 5) i = D.2.2.2.2.2 i) (q6 : N (B.1 + 17) 6 = tbit D.2.2.1)
    (m0 : N 101 B.1 = nI D.1) (m1 : N 102 B.1 = nI D.2.1) (m2 : N 103 B.1 = nI D.2.2.1) (m3 : N 104 B.1 = nI D.2.2.2.1) (m4 : N 105 B.1 = enI D.2.2.2.2.1) (m5 : ∀ i, i < 32 → bt (N 106 B.1) i = D.2.2.2.2.2 i) :
    InW (addB B D) (upN od B.1 B.1) (fun w => if w = B.1 then D.2.2.2.2.1 else bk w) 0 N := by
  obtain ⟨h1, h2, h3, h4, h5, h6, h7, h8, h9, h10, h11, kc, k1, k2, k3, k4⟩ := h
  have w0 := h4 0 (by omega)
  have e56 : N (B.1 + 17) 5 = N 106 B.1 := b_ext (fun i hi => by rw [q5 i hi, m5 i hi])
  refine ⟨by decide, n4, n20, fun r hr => ?_, ⟨fun k hk => ?_, fun i j hi hj he => ?_⟩, fun k hk => ?_, fun w o hw ho => ?_, fun w hw i hi => ?_, fun w hw => ?_, fun w x hx => ?_, fun w hw => ?_, kc, by rw [e 3 5 (by unfold Sno Scr; omega) (by omega) (by omega) (by omega) (by omega) (by omega)]; exact k1, k2, ?_, fun q => ?_⟩
  · obtain ⟨⟨u1, u2, u3, u4, u5⟩, ⟨v1, v2, v3, v4, v5⟩⟩ := h4 r (by omega)
    refine ⟨⟨n3, by show B.1 + 1 ≤ 16; omega, by rw [e 2 5 (by unfold Sno Scr; omega) (by omega) (by omega) (by omega) (by omega) (by omega)]; exact u3, u4, fun w hw => ?_⟩, ⟨n14, by show B.1 + 1 ≤ 16; omega, by rw [e 99 15 (by unfold Sno Scr; omega) (by omega) (by omega) (by omega) (by omega) (by omega)]; exact v3, v4, fun w hw => ?_⟩⟩
    · have hw : w < B.1 + 1 := hw
      by_cases c : w = B.1
      · subst c
        refine ⟨?_, ?_, ?_, ?_, fun o ho => ?_, ?_, ?_⟩
        · show N (B.1 + 17) 3 = nI (if B.1 = B.1 then _ else _); rw [if_pos rfl]; exact q3
        · show (if B.1 = B.1 then D.2.2.2.1 else _) ≤ 30; rw [if_pos rfl]; exact hD.2.1
        · show N (B.1 + 17) 6 = tbit (if B.1 = B.1 then _ else _); rw [if_pos rfl]; exact q6
        · show (if B.1 = B.1 then D.2.2.1 else _) ≤ 3; rw [if_pos rfl]; exact hD.1
        · show bt (N (B.1 + 17) 5) o = (decide (o < B.1 + 1) && (if B.1 = B.1 then D.2.2.2.2.2 o else B.2.2.2.2.1 B.1 o))
          rw [if_pos rfl, q5 o ho]
          cases q : D.2.2.2.2.2 o
          · rw [Bool.and_false]
          · have := hD.2.2.2 o q
            rw [decide_eq_true (show o < B.1 + 1 by omega)]; rfl
        · show N (r + 55) B.1 = nI (if B.1 = B.1 then (if r = 0 then D.1 else D.2.1) else B.2.1 r B.1)
          rw [if_pos rfl]
          rcases (by omega : r = 0 ∨ r = 1) with z | z <;> subst z
          · exact n55
          · exact n56
        · show 1 ≤ (if B.1 = B.1 then (if r = 0 then D.1 else D.2.1) else B.2.1 r B.1) ∧ (if B.1 = B.1 then (if r = 0 then D.1 else D.2.1) else B.2.1 r B.1) ≤ 40
          rw [if_pos rfl]
          obtain ⟨z1, z2, z3⟩ := hH
          split <;> omega
      · have hw2 : w < B.1 := by omega
        obtain ⟨g1, g2, g3, g4, g5, g6, g7⟩ := u5 w hw2
        refine ⟨?_, ?_, ?_, ?_, fun o ho => ?_, ?_, ?_⟩
        · show N (w + 17) 3 = nI (if w = B.1 then _ else B.2.2.2.1 w); rw [if_neg c, e (w + 17) 3 (by unfold Sno Scr; omega) (by omega) (by omega) (by omega) (by omega) (by omega)]; exact g1
        · show (if w = B.1 then D.2.2.2.1 else B.2.2.2.1 w) ≤ 30; rw [if_neg c]; exact g2
        · show N (w + 17) 6 = tbit (if w = B.1 then _ else B.2.2.1 w); rw [if_neg c, e (w + 17) 6 (by unfold Sno Scr; omega) (by omega) (by omega) (by omega) (by omega) (by omega)]; exact g3
        · show (if w = B.1 then D.2.2.1 else B.2.2.1 w) ≤ 3; rw [if_neg c]; exact g4
        · show bt (N (w + 17) 5) o = (decide (o < B.1 + 1) && (if w = B.1 then D.2.2.2.2.2 o else B.2.2.2.2.1 w o))
          rw [if_neg c, e (w + 17) 5 (by unfold Sno Scr; omega) (by omega) (by omega) (by omega) (by omega) (by omega), g5 o ho]
          show (decide (o < B.1) && B.2.2.2.2.1 w o) = _
          cases q : B.2.2.2.2.1 w o
          · rw [Bool.and_false, Bool.and_false]
          · have := h7 w o hw2 q
            rw [decide_eq_true (show o < B.1 by omega), decide_eq_true (show o < B.1 + 1 by omega)]
        · show N (r + 55) w = nI (if w = B.1 then (if r = 0 then D.1 else D.2.1) else B.2.1 r w)
          rw [if_neg c, e (r + 55) w (by unfold Sno Scr; omega) (by omega) (by omega) (by omega) (by omega) (by omega)]; exact g6
        · show 1 ≤ (if w = B.1 then (if r = 0 then D.1 else D.2.1) else B.2.1 r w) ∧ (if w = B.1 then (if r = 0 then D.1 else D.2.1) else B.2.1 r w) ≤ 40
          rw [if_neg c]; exact g7
    · have hw : w < B.1 + 1 := hw
      by_cases c : w = B.1
      · subst c
        refine ⟨?_, ?_, ?_, ?_, fun o ho => ?_, ?_, ?_⟩
        · show N 104 B.1 = nI (if B.1 = B.1 then _ else _); rw [if_pos rfl]; exact m3
        · show (if B.1 = B.1 then D.2.2.2.1 else _) ≤ 30; rw [if_pos rfl]; exact hD.2.1
        · show N 103 B.1 = nI (if B.1 = B.1 then _ else _); rw [if_pos rfl]; exact m2
        · show (if B.1 = B.1 then D.2.2.1 else _) ≤ 3; rw [if_pos rfl]; exact hD.1
        · show bt (N 106 B.1) o = (decide (o < B.1 + 1) && (if B.1 = B.1 then D.2.2.2.2.2 o else B.2.2.2.2.1 B.1 o))
          rw [if_pos rfl, m5 o ho]
          cases q : D.2.2.2.2.2 o
          · rw [Bool.and_false]
          · have := hD.2.2.2 o q
            rw [decide_eq_true (show o < B.1 + 1 by omega)]; rfl
        · show hrM N r B.1 = nI (if B.1 = B.1 then (if r = 0 then D.1 else D.2.1) else B.2.1 r B.1)
          rw [if_pos rfl]
          rcases (by omega : r = 0 ∨ r = 1) with z | z <;> subst z
          · exact m0
          · exact m1
        · show 1 ≤ (if B.1 = B.1 then (if r = 0 then D.1 else D.2.1) else B.2.1 r B.1) ∧ (if B.1 = B.1 then (if r = 0 then D.1 else D.2.1) else B.2.1 r B.1) ≤ 40
          rw [if_pos rfl]
          obtain ⟨z1, z2, z3⟩ := hH
          split <;> omega
      · have hw2 : w < B.1 := by omega
        obtain ⟨g1, g2, g3, g4, g5, g6, g7⟩ := v5 w hw2
        have hh : hrM N r w = hrM M r w := by
          rcases (by omega : r = 0 ∨ r = 1) with z | z <;> subst z
          · exact e 101 w (by unfold Sno Scr; omega) (by omega) (by omega) (by omega) (by omega) (by omega)
          · exact e 102 w (by unfold Sno Scr; omega) (by omega) (by omega) (by omega) (by omega) (by omega)
        refine ⟨?_, ?_, ?_, ?_, fun o ho => ?_, ?_, ?_⟩
        · show N 104 w = nI (if w = B.1 then _ else B.2.2.2.1 w); rw [if_neg c, e 104 w (by unfold Sno Scr; omega) (by omega) (by omega) (by omega) (by omega) (by omega)]; exact g1
        · show (if w = B.1 then D.2.2.2.1 else B.2.2.2.1 w) ≤ 30; rw [if_neg c]; exact g2
        · show N 103 w = nI (if w = B.1 then _ else B.2.2.1 w); rw [if_neg c, e 103 w (by unfold Sno Scr; omega) (by omega) (by omega) (by omega) (by omega) (by omega)]; exact g3
        · show (if w = B.1 then D.2.2.1 else B.2.2.1 w) ≤ 3; rw [if_neg c]; exact g4
        · show bt (N 106 w) o = (decide (o < B.1 + 1) && (if w = B.1 then D.2.2.2.2.2 o else B.2.2.2.2.1 w o))
          rw [if_neg c, e 106 w (by unfold Sno Scr; omega) (by omega) (by omega) (by omega) (by omega) (by omega), g5 o ho]
          show (decide (o < B.1) && B.2.2.2.2.1 w o) = _
          cases q : B.2.2.2.2.1 w o
          · rw [Bool.and_false, Bool.and_false]
          · have := h7 w o hw2 q
            rw [decide_eq_true (show o < B.1 by omega), decide_eq_true (show o < B.1 + 1 by omega)]
        · show hrM N r w = nI (if w = B.1 then (if r = 0 then D.1 else D.2.1) else B.2.1 r w)
          rw [if_neg c, hh]; exact g6
        · show 1 ≤ (if w = B.1 then (if r = 0 then D.1 else D.2.1) else B.2.1 r w) ∧ (if w = B.1 then (if r = 0 then D.1 else D.2.1) else B.2.1 r w) ≤ 40
          rw [if_neg c]; exact g7
  · have hk : k < B.1 + 1 := hk
    show upN od B.1 B.1 k < B.1 + 1
    by_cases c : k = B.1
    · subst c; rw [upN_s]; omega
    · rw [upN_o c]; have := h5.1 k (by omega); omega
  · have hi : i < B.1 + 1 := hi
    have hj : j < B.1 + 1 := hj
    by_cases c1 : i = B.1 <;> by_cases c2 : j = B.1
    · omega
    · rw [c1, upN_s, upN_o c2] at he; have := h5.1 j (by omega); omega
    · rw [c2, upN_s, upN_o c1] at he; have := h5.1 i (by omega); omega
    · rw [upN_o c1, upN_o c2] at he; exact h5.2 i j (by omega) (by omega) he
  · have hk : k < B.1 + 1 := hk
    by_cases c : k = B.1
    · subst c; rw [upN_s]; exact ⟨n9, n107⟩
    · rw [upN_o c, e 9 k (by unfold Sno Scr; omega) (by omega) (by omega) (by omega) (by omega) (by omega), e 107 k (by unfold Sno Scr; omega) (by omega) (by omega) (by omega) (by omega) (by omega)]
      exact h6 k (by omega)
  · have hw : w < B.1 + 1 := hw
    have ho : (if w = B.1 then D.2.2.2.2.2 o else B.2.2.2.2.1 w o) = true := ho
    by_cases c : w = B.1
    · rw [if_pos c] at ho; have := hD.2.2.2 o ho; omega
    · rw [if_neg c] at ho; exact h7 w o (by omega) ho
  · have hw : w < B.1 + 1 := hw
    by_cases c : w = B.1
    · subst c
      rcases (by omega : i = 0 ∨ i = 1 ∨ i = 2 ∨ i = 3 ∨ i = 4 ∨ i = 5) with z | z | z | z | z | z <;> subst z
      · exact q0.trans m0.symm
      · exact q1.trans m1.symm
      · exact q2.trans m2.symm
      · exact q3.trans m3.symm
      · exact q4.trans m4.symm
      · exact e56
    · rw [e (w + 17) i (by unfold Sno Scr; omega) (by omega) (by omega) (by omega) (by omega) (by omega), e (101 + i) w (by unfold Sno Scr; omega) (by omega) (by omega) (by omega) (by omega) (by omega)]
      exact h8 w (by omega) i hi
  · have hw : w < B.1 + 1 := hw
    by_cases c : w = B.1
    · subst c; simp only [if_true]; exact m4
    · simp only [if_neg c]
      rw [e 105 w (by unfold Sno Scr; omega) (by omega) (by omega) (by omega) (by omega) (by omega)]
      exact h9 w (by omega)
  · by_cases c : w = B.1
    · simp only [if_pos c] at hx; exact hD.2.2.1 x hx
    · simp only [if_neg c] at hx; exact h10 w x hx
  · have hw : w < B.1 + 1 := hw
    show (if w = B.1 then (if (0 : Nat) = 0 then D.1 else D.2.1) else B.2.1 0 w) ≤ (if w = B.1 then (if (1 : Nat) = 0 then D.1 else D.2.1) else B.2.1 1 w)
    by_cases c : w = B.1
    · rw [if_pos c, if_pos c, if_pos rfl, if_neg (by decide)]; exact hH.2.1
    · rw [if_neg c, if_neg c]; exact h11 w (by omega)
  · rw [e 3 4 (by unfold Sno Scr; omega) (by omega) (by omega) (by omega) (by omega) (by omega)]
    rcases k3 with z | ⟨ks, z1, z2⟩
    · exact Or.inl z
    · exact Or.inr ⟨ks, by show ks ≤ B.1 + 1; omega, z2⟩
  · rw [e 3 4 (by unfold Sno Scr; omega) (by omega) (by omega) (by omega) (by omega) (by omega)] at q
    have q : M 3 4 = nI (B.1 + 1) := q
    rcases k3 with z | ⟨ks, z1, z2⟩
    · exact absurd (q.symm.trans z) (nI_nm1 (by omega))
    · have := (nI_eq (by omega) (by omega)).mp (q.symm.trans z2)
      omega
