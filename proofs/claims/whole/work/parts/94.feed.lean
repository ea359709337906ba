theorem by_sh : ∀ j, j < 4 → ((((nI (24 - 8 * j)).toUInt32 &&& Int32.toUInt32 31)).toBitVec % 32).toNat = 24 - 8 * j := by decide
theorem by_c (v : Int32) {j i : Nat} (hj : j < 4) : bt ((v.toUInt32 >>> ((nI (24 - 8 * j)).toUInt32 &&& Int32.toUInt32 31)).toInt32) i = bt v (24 - 8 * j + i) := by
  unfold bt
  show (v.toUInt32 >>> ((nI (24 - 8 * j)).toUInt32 &&& Int32.toUInt32 31)).toBitVec.getLsbD i = _
  rw [UInt32.toBitVec_shiftRight, BitVec.ushiftRight_eq', by_sh j hj, BitVec.getLsbD_ushiftRight]
  rfl
theorem by_8 (x : Int32) {i : Nat} (hi : i < 8) : bt (x.toInt8.toInt32) i = bt x i := by
  unfold bt
  show ((x.toBitVec.signExtend 8).signExtend 32).getLsbD i = _
  rw [BitVec.getLsbD_signExtend, BitVec.getLsbD_signExtend]
  simp [hi, show i < 32 by omega]
theorem bt255 : ∀ i, i < 32 → bt 255 i = decide (i < 8) := by decide
theorem by_eq (v : Int32) {j : Nat} (hj : j < 4) : byM v j &&& 255 = byC v j := by
  apply b_ext
  intro i hi
  unfold byM byC
  rw [b_and, b_and, bt255 i hi]
  by_cases h : i < 8
  · rw [by_8 _ h, by_c v hj, b_sshr (24 - 8 * j) (by omega) v hi, if_pos (by omega)]
  · rw [decide_eq_false h, Bool.and_false, Bool.and_false]
theorem and255 (y : Int32) : ∃ x, x < 256 ∧ y &&& 255 = nI x := by
  have hl : (y &&& 255).toBitVec.toNat < 256 := by
    rw [Int32.toBitVec_and, BitVec.toNat_and]
    exact Nat.lt_of_le_of_lt Nat.and_le_right (by decide)
  refine ⟨(y &&& 255).toBitVec.toNat, hl, ?_⟩
  apply Int32.toInt_inj.mp
  rw [nI_toInt (by omega)]
  show (y &&& 255).toBitVec.toInt = _
  exact BitVec.toInt_eq_toNat_of_lt (by omega)
theorem by_ok (v : Int32) {j : Nat} (hj : j < 4) : ∃ x, x < 256 ∧ byC v j = nI x ∧ byM v j &&& 255 = nI x := by
  obtain ⟨x, x1, x2⟩ := and255 ((v.toUInt32 >>> ((nI (24 - 8 * j)).toUInt32 &&& Int32.toUInt32 31)).toInt32)
  exact ⟨x, x1, x2, by rw [by_eq v hj]; exact x2⟩
set_option maxHeartbeats 4000000 in
theorem op_feed {l : Launch} {E : EnT} (hst : l.stackTraces = false) {M : Mem} (h : Inv M) (a b c d e : Int32) : OpV l E mX6_feed mX7_feed 1 0 [.int a, .int b, .int c, .int d, .int e] M := by
  obtain ⟨⟨t, t1, t2, t3, t4⟩, h2, hL, hN, hY, _⟩ := id h
  have c6 := c_X6_feed (E := E) hst a b c d e M t t2 t1
  by_cases h20 : t + 20 ≤ 200
  · rw [if_pos h20, if_pos h20] at c6
    have c7 := c_X7_feed (E := E) hst a b c d e (mu (fil M 7 t 20 (fun i => byC (fd5 a b c d e (i / 4)) (i % 4))) 1 1 (nI (t + 20))) t t3 t1
    rw [if_pos h20, if_pos h20] at c7
    refine OpV_Rt c6 c7 rfl ?_
    have hE : Eqx Sno M (mu (fil (mu (mu (fil M 7 t 20 (fun i => byC (fd5 a b c d e (i / 4)) (i % 4))) 1 1 (nI (t + 20))) 99 0 0) 100 t 20 (fun i => byM (fd5 a b c d e (i / 4)) (i % 4))) 99 2 (nI (t + 20))) := by
      have e1 : Eqx Sno M (fil M 7 t 20 (fun i => byC (fd5 a b c d e (i / 4)) (i % 4))) := fun x y z => fil_o (fun q => z (by unfold Sno; omega))
      have e2 := (e1.mu (k := 1) (i := 1) (v := nI (t + 20)) (by unfold Sno; omega)).mu (k := 99) (i := 0) (v := 0) (by unfold Sno Scr; omega)
      refine Eqx.mu ?_ (by unfold Sno; omega)
      exact e2.tr (fun x y z => fil_o (fun q => z (by unfold Sno; omega)))
    refine Inv_of h hE ⟨t + 20, h20, rfl, rfl, fun i hi => ?_⟩ h2 (hL.keep rfl rfl) (hN.keep rfl rfl rfl rfl) (hY.keep rfl (fun b hb => by rcases hb with q | q <;> subst q <;> rfl) (fun a ha => by rcases ha with q | q | q | q | q | q <;> subst q <;> rfl))
    by_cases q : t ≤ i ∧ i < t + 20
    · obtain ⟨x, x1, x2, x3⟩ := by_ok (fd5 a b c d e ((i - t) / 4)) (j := (i - t) % 4) (by omega)
      refine ⟨x, x1, ?_, ?_⟩
      · rw [mu_o (by decide), fil_o (by decide), mu_o (by decide), mu_o (by decide), fil_i q.1 q.2]; exact x2
      · rw [mu_o (by decide), fil_i q.1 q.2]; exact x3
    · obtain ⟨x, x1, x2, x3⟩ := t4 i hi
      refine ⟨x, x1, ?_, ?_⟩
      · rw [mu_o (by decide), fil_o (by decide), mu_o (by decide), mu_o (by decide), fil_x (by omega)]; exact x2
      · rw [mu_o (by decide), fil_x (by omega), mu_o (by decide), mu_o (by decide), fil_o (by decide)]; exact x3
  · rw [if_neg h20, if_neg h20] at c6
    have c7 := c_X7_feed (E := E) hst a b c d e M t t3 t1
    rw [if_neg h20, if_neg h20] at c7
    exact OpV_Rt c6 c7 rfl h.m0
