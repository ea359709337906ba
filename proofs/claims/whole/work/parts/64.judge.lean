def Sj (a b : Nat) : Prop := (a = 2 ∧ 7 ≤ b) ∨ a = 11 ∨ a = 77 ∨ a = 78 ∨ ((a = 33 ∨ a = 34) ∧ b = 2) ∨ (a = 3 ∧ (b = 1 ∨ b = 3)) ∨ a = 12
def SjT (pos a b : Nat) : Prop := Sj a b ∨ (a = 13 ∧ pos ≤ b)
theorem WC.keepJ {P : Pb} {M N : Mem} {r : Nat} (h : WC P M r) (hr : r < 22) (he : Eqx (SjT 0) M N) : WC P N r := by
  obtain ⟨h1, h2, h3, h4, h5⟩ := h
  refine ⟨by rw [he 2 3 (by unfold SjT Sj; omega)]; exact h1, h2, by rw [he 2 5 (by unfold SjT Sj; omega)]; exact h3, h4, fun w hw => ?_⟩
  obtain ⟨g1, g2, g3, g4, g5, g6, g7⟩ := h5 w hw
  refine ⟨by rw [he (w + 17) 3 (by unfold SjT Sj; omega)]; exact g1, g2, by rw [he (w + 17) 6 (by unfold SjT Sj; omega)]; exact g3, g4, by rw [he (w + 17) 5 (by unfold SjT Sj; omega)]; exact g5, by rw [he (r + 55) w (by unfold SjT Sj; omega)]; exact g6, g7⟩
def CBs (B : Bw) (T : OrS) (N : Mem) (c : Nat) : Prop := ∃ em el, em ≤ 1000000 ∧ el ≤ 1000000 ∧ N 3 1 = nI em ∧ N 3 3 = nI el ∧ CB B T N c em el
set_option maxHeartbeats 8000000 in
theorem c_X1_judge {l : Launch} {E : EnT} (hst : l.stackTraces = false) (M : Mem) (B : Bw) (t : Nat → Nat) (T T2 : OrS) (a b : Nat) (h7 : B.1 ≤ 7) (hW0 : WC (rowP B 0) M 0) (hW1 : WC (rowP B 1) M 1) (ht : ∀ k, k < B.1 → M 13 k = nI (t k) ∧ t k < B.1) (ha : endS (rowP B 1) t = some a) (hb : endS (rowP B 0) t = some b) (hT : ∀ p, T2 p ↔ (T p ∨ eqP B.1 p t)) (hL : ∀ p, T p → ltP B.1 p t) (hC : CBs B T M 12) : Mm l E mX1_judge 3 0 0 [.ref 3, .ref 2] M (RP none (fun N => Eqx Sj M N ∧ CBs B T2 N 12)) := by
  obtain ⟨em, el, c1, c2, c3, c4, c5⟩ := hC
  have ab : a ≤ 680 := end_bd (P := rowP B 1) hW1.2.1 (fun k hk => (ht k hk).2) (fun w hw => (hW1.2.2.2.2 w hw).2.2.2.2.2.2) ha
  have bb : b ≤ 680 := end_bd (P := rowP B 0) hW0.2.1 (fun k hk => (ht k hk).2) (fun w hw => (hW0.2.2.2.2 w hw).2.2.2.2.2.2) hb
  have ea : e1N B t = a := by unfold e1N; rw [ha]; rfl
  have eb : e0N B t = b := by unfold e0N; rw [hb]; rfl
  refine Mm_go hst (by decide) rfl (Nat.le_of_ble_eq_true rfl) [some (.ref 3), some (.ref 2), none, none] rfl ?_
  refine z_aload_n dX1_judge_0 rfl rfl ?_
  refine z_iconst (v := 1) dX1_judge_1 (by decide) rfl ?_
  refine z_tp (b := (nI 1)) rfl ?_
  refine z_aload_n dX1_judge_2 rfl rfl ?_
  refine z_gr1 (j := 2) dX1_judge_3 (by decide) fl_X1_15 rfl rfl rfl ?_
  refine z_cq2 (ci := 2) (nf := 11) (y := mX2_walk) dX1_judge_6 ml_X1_66 iv_X2_walk (Nat.le_of_ble_eq_true rfl) rfl (by decide) rfl (Nat.le_of_ble_eq_true rfl) (Nat.le_of_ble_eq_true rfl) (Nat.le_of_ble_eq_true rfl) (c_X2_walk hst M (rowP B 1) 1 13 7 t (by decide) rfl h7 (by decide) (Or.inr rfl) hW1 ht) rfl ?_
  intro N ⟨hE, _, _⟩
  have hE1 : Eqx Sj M N := hE.mono (fun x y q => by unfold Sx at q; unfold Sj; omega)
  rw [ha]
  refine z_tp (b := (nI a)) rfl ?_
  have n31 : N 3 1 = nI em := by rw [hE 3 1 (by unfold Sx; omega)]; exact c3
  have n33 : N 3 3 = nI el := by rw [hE 3 3 (by unfold Sx; omega)]; exact c4
  refine z_ist2 dX1_judge_9 (Nat.le_of_ble_eq_true rfl) rfl ?_
  refine z_iload_n dX1_judge_10 rfl rfl ?_
  refine z_aload_n dX1_judge_11 rfl rfl ?_
  refine z_gi1 (j := 1) dX1_judge_12 (by decide) fl_X1_34 rfl rfl rfl ?_
  refine z_icmp_le (tgt := 19) dX1_judge_15 (by decide) rfl (fun h1 => ?_) (fun h1 => ?_)
  · rw [n31] at h1
    have hle := le_nn h1 (by omega) (by omega)
    refine z_aload_n dX1_judge_19 rfl rfl ?_
    refine z_iconst (v := 0) dX1_judge_20 (by decide) rfl ?_
    refine z_tp (b := (nI 0)) rfl ?_
    refine z_aload_n dX1_judge_21 rfl rfl ?_
    refine z_gr1 (j := 2) dX1_judge_22 (by decide) fl_X1_15 rfl rfl rfl ?_
    refine z_cq2 (ci := 2) (nf := 11) (y := mX2_walk) dX1_judge_25 ml_X1_66 iv_X2_walk (Nat.le_of_ble_eq_true rfl) rfl (by decide) rfl (Nat.le_of_ble_eq_true rfl) (Nat.le_of_ble_eq_true rfl) (Nat.le_of_ble_eq_true rfl) (c_X2_walk hst N (rowP B 0) 0 13 7 t (by decide) rfl h7 (by decide) (Or.inr rfl) (hW0.keepJ (by decide) (hE1.mono (fun _ _ q => Or.inl q))) (fun k hk => ⟨by rw [hE 13 k (by unfold Sx; omega)]; exact (ht k hk).1, (ht k hk).2⟩)) rfl ?_
    intro N2 ⟨hE2, _, _⟩
    rw [hb]
    refine z_tp (b := (nI b)) rfl ?_
    have hE3 : Eqx Sj M N2 := hE1.tr (hE2.mono (fun x y q => by unfold Sx at q; unfold Sj; omega))
    have m31 : N2 3 1 = nI em := by rw [hE2 3 1 (by unfold Sx; omega)]; exact n31
    have m33 : N2 3 3 = nI el := by rw [hE2 3 3 (by unfold Sx; omega)]; exact n33
    have k12 : ∀ k, k < B.1 → N2 12 k = M 12 k := fun k hk => by rw [hE2 12 k (by unfold Sx; omega), hE 12 k (by unfold Sx; omega)]
    have t13 : ∀ k, k < B.1 → N2 13 k = nI (t k) := fun k hk => by rw [hE3 13 k (by unfold Sj; omega)]; exact (ht k hk).1
    have upd2 : (a < em ∨ (a = em ∧ b < el)) → Zz (zx l E mX1_judge 3 (RP none (fun N => Eqx Sj M N ∧ CBs B T2 N 12))) 0 0 45 [some (.ref 3), some (.ref 2), some (.int (nI a)), some (.int (nI b))] [] N2 := fun hk => by
      refine z_aload_n dX1_judge_45 rfl rfl ?_
      refine z_iload_n dX1_judge_46 rfl rfl ?_
      refine z_pi1 (j := 1) dX1_judge_47 (by decide) fl_X1_34 rfl rfl rfl rfl rfl ?_
      refine z_aload_n dX1_judge_50 rfl rfl ?_
      refine z_iload_n dX1_judge_51 rfl rfl ?_
      refine z_pi1 (j := 3) dX1_judge_52 (by decide) fl_X1_37 rfl rfl rfl rfl rfl ?_
      refine z_aload_n dX1_judge_55 rfl rfl ?_
      refine z_gr1 (j := 2) dX1_judge_56 (by decide) fl_X1_15 rfl rfl rfl ?_
      refine z_iconst (v := 0) dX1_judge_59 (by decide) rfl ?_
      refine z_aload_n dX1_judge_60 rfl rfl ?_
      refine z_gr1 (j := 0) dX1_judge_61 (by decide) fl_X1_9 rfl rfl rfl ?_
      refine z_iconst (v := 0) dX1_judge_64 (by decide) rfl ?_
      refine z_bipush (v := 7) dX1_judge_65 (by decide) rfl ?_
      refine z_copy dX1_judge_67 ml_X1_70 (Nat.le_of_ble_eq_true rfl) (Nat.le_of_ble_eq_true rfl) (n0 := 7) (n1 := 7) (m := 7) rfl rfl rfl (by decide) (by decide) (by decide) rfl ?_
      exact z_return dX1_judge_70 rfl ⟨rfl, fun x y q => by rw [fil_o (fun e => q (by subst e; unfold Sj; omega)), ((hE3.mu (k := 3) (i := 1) (by unfold Sj; omega)).mu (k := 3) (i := 3) (by unfold Sj; omega)) x y q], a, b, by omega, by omega, rfl, rfl, by rw [← ea, ← eb]; exact CB_new c5 hT (by rw [ea, eb]; exact hk) (fun k hk => by rw [fil_i (Nat.zero_le _) (by omega), Nat.sub_zero]; exact t13 k hk)⟩ (Nat.le_of_ble_eq_true rfl) (Nat.le_of_ble_eq_true rfl)
    refine z_ist3 dX1_judge_28 (Nat.le_of_ble_eq_true rfl) rfl ?_
    refine z_iload_n dX1_judge_29 rfl rfl ?_
    refine z_aload_n dX1_judge_30 rfl rfl ?_
    refine z_gi1 (j := 1) dX1_judge_31 (by decide) fl_X1_34 rfl rfl rfl ?_
    refine z_icmp_lt (tgt := 45) dX1_judge_34 (by decide) rfl (fun h2 => ?_) (fun h2 => ?_)
    · rw [m31] at h2
      exact upd2 (Or.inl (lt_nn h2 (by omega) (by omega)))
    · rw [m31] at h2
      have h2' := nlt_nn h2 (by omega) (by omega)
      refine z_iload_n dX1_judge_37 rfl rfl ?_
      refine z_aload_n dX1_judge_38 rfl rfl ?_
      refine z_gi1 (j := 3) dX1_judge_39 (by decide) fl_X1_37 rfl rfl rfl ?_
      refine z_icmp_ge (tgt := 70) dX1_judge_42 (by decide) rfl (fun h3 => ?_) (fun h3 => ?_)
      · rw [m33] at h3
        have h3' := le_nn h3 (by omega) (by omega)
        exact z_return dX1_judge_70 rfl ⟨rfl, hE3, em, el, c1, c2, m31, m33, CB_keep c5 hT hL (by omega) (Or.inr ⟨by omega, by omega⟩) k12⟩ (Nat.le_of_ble_eq_true rfl) (Nat.le_of_ble_eq_true rfl)
      · rw [m33] at h3
        have h3' := nle_nn h3 (by omega) (by omega)
        exact upd2 (Or.inr ⟨by omega, by omega⟩)
  · rw [n31] at h1
    have hlt := nle_nn h1 (by omega) (by omega)
    exact z_return dX1_judge_18 rfl ⟨rfl, hE1, em, el, c1, c2, n31, n33, CB_keep c5 hT hL (by omega) (Or.inl (by omega)) (fun k hk => hE 12 k (by unfold Sx; omega))⟩ (Nat.le_of_ble_eq_true rfl) (Nat.le_of_ble_eq_true rfl)
