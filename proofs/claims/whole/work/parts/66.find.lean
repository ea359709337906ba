/-! find, and the class's BEST -/
theorem id_ok {B : Bw} : Nd B (fun k => k) := ⟨⟨fun k hk => hk, fun i j _ _ h => h⟩, fun ⟨i, _, h, _⟩ => by have h : i + 1 < i := h; omega⟩
/-- what is known is the best -/
def Kn (B : Bw) (N : Mem) : Prop := ∃ f, Fst B (Pm B.1) f ∧ N 3 1 = nI (e1N B f) ∧ ∀ k, k < B.1 → N 12 k = nI (f k)
theorem Kn_of {B : Bw} {N : Mem} (h7 : B.1 ≤ 7) (h : CBs B (Nd B) N 12) : Kn B N := by
  obtain ⟨em, el, c1, c2, c3, c4, c5⟩ := h
  rcases c5 with ⟨_, _, h3⟩ | ⟨f, h1, h2, h3, h4⟩
  · exact absurd id_ok (h3 _)
  · exact ⟨f, Fst_all h7 h1, by rw [c3, h2], h4⟩
def Sf (a b : Nat) : Prop := SjT 0 a b ∨ a = 3
set_option maxHeartbeats 8000000 in
theorem c_X1_find {l : Launch} {E : EnT} (hst : l.stackTraces = false) (B : Bw) (h7 : B.1 ≤ 7) (hx : ∀ p, Pm B.1 p → (∃ a, endS (rowP B 1) p = some a) ∧ ∃ b, endS (rowP B 0) p = some b) (M : Mem) (hW0 : WC (rowP B 0) M 0) (hW1 : WC (rowP B 1) M 1) (hK : M 3 4 = M 2 3 → M 3 5 = M 2 5 → Kn B M) : Mm l E mX1_find 14 0 0 [.ref 3, .ref 2] M (RP none (fun N => Eqx Sf M N ∧ Kn B N ∧ N 3 4 = M 2 3 ∧ N 3 5 = M 2 5)) := by
  refine Mm_go hst (by decide) rfl (Nat.le_of_ble_eq_true rfl) [some (.ref 3), some (.ref 2)] rfl ?_
  have go : Zz (zx l E mX1_find 14 (RP none (fun N => Eqx Sf M N ∧ Kn B N ∧ N 3 4 = M 2 3 ∧ N 3 5 = M 2 5))) 0 0 23 [some (.ref 3), some (.ref 2)] [] M := by
    refine z_aload_n dX1_find_23 rfl rfl ?_
    refine z_aload_n dX1_find_24 rfl rfl ?_
    refine z_gi2 (j := 3) dX1_find_25 (by decide) fl_X1_25 rfl rfl rfl ?_
    refine z_pi1 (j := 4) dX1_find_28 (by decide) fl_X1_18 rfl rfl rfl rfl rfl ?_
    refine z_aload_n dX1_find_31 rfl rfl ?_
    refine z_aload_n dX1_find_32 rfl rfl ?_
    refine z_gi2 (j := 5) dX1_find_33 (by decide) fl_X1_30 rfl rfl rfl ?_
    refine z_pi1 (j := 5) dX1_find_36 (by decide) fl_X1_22 rfl rfl rfl rfl rfl ?_
    refine z_aload_n dX1_find_39 rfl rfl ?_
    refine z_ldc dX1_find_40 co_X1_33 rfl ?_
    refine z_pi1 (j := 1) dX1_find_42 (by decide) fl_X1_34 rfl rfl rfl rfl rfl ?_
    refine z_aload_n dX1_find_45 rfl rfl ?_
    refine z_ldc dX1_find_46 co_X1_33 rfl ?_
    refine z_pi1 (j := 3) dX1_find_48 (by decide) fl_X1_37 rfl rfl rfl rfl rfl ?_
    refine z_aload_n dX1_find_51 rfl rfl ?_
    refine z_aload_n dX1_find_52 rfl rfl ?_
    refine z_iconst (v := 0) dX1_find_53 (by decide) rfl ?_
    refine z_tp (b := (nI 0)) rfl ?_
    refine z_iconst (v := 0) dX1_find_54 (by decide) rfl ?_
    have hE : Eqx Sf M (mu (mu (mu (mu M 3 4 (M 2 3)) 3 5 (M 2 5)) 3 1 1000000) 3 3 1000000) := (((Eqx.rf.mu (Or.inr rfl)).mu (Or.inr rfl)).mu (Or.inr rfl)).mu (Or.inr rfl)
    have hW : ∀ r, r < 22 → WC (rowP B r) M r → WC (rowP B r) (mu (mu (mu (mu M 3 4 (M 2 3)) 3 5 (M 2 5)) 3 1 1000000) 3 3 1000000) r := fun r hr h => by
      obtain ⟨h1, h2, h3, h4, h5⟩ := h
      refine ⟨h1, h2, h3, h4, fun w hw => ?_⟩
      have e : ∀ a b, a ≠ 3 → mu (mu (mu (mu M 3 4 (M 2 3)) 3 5 (M 2 5)) 3 1 1000000) 3 3 1000000 a b = M a b := fun a b q => by rw [mu_o q, mu_o q, mu_o q, mu_o q]
      obtain ⟨g1, g2, g3, g4, g5, g6, g7⟩ := h5 w hw
      exact ⟨by rw [e _ _ (by omega)]; exact g1, g2, by rw [e _ _ (by omega)]; exact g3, g4, by rw [e _ _ (by omega)]; exact g5, by rw [e _ _ (by omega)]; exact g6, g7⟩
    refine z_cp3 (ci := 1) (nf := 6) (y := mX1_tryFrom) dX1_find_55 ml_X1_40 iv_X1_tryFrom (by show _ + 6 + 1 ≤ 14; omega) rfl (by decide) rfl (Nat.le_of_ble_eq_true rfl) (Nat.le_of_ble_eq_true rfl) (Nat.le_of_ble_eq_true rfl) (c_X1_tryFrom hst B h7 hx B.1 0 (by omega) _ (fun _ => 0) 0 (hW 0 (by decide) hW0) (hW 1 (by decide) hW1) ⟨fun k hk => absurd hk (Nat.not_lt_zero k), fun i j hi => absurd hi (Nat.not_lt_zero i), fun i hi => absurd hi (Nat.not_lt_zero _), fun i hi => ⟨fun h => (by rw [b_0] at h; cases h), fun ⟨k, hk, _⟩ => absurd hk (Nat.not_lt_zero k)⟩⟩ ⟨1000000, 1000000, Nat.le_refl _, Nat.le_refl _, rfl, rfl, Or.inl ⟨by decide, by decide, fun p ⟨_, i, hi, _⟩ => absurd hi (Nat.not_lt_zero i)⟩⟩) rfl ?_
    intro N ⟨hE2, hN⟩
    exact z_return dX1_find_58 rfl ⟨rfl, hE.tr (hE2.mono (fun _ _ q => Or.inl q)), Kn_of h7 (CBs_cg hN (fun p => ⟨fun h => h.elim (fun q => q.1) (fun q => q.1), fun h => Or.inr ⟨h, fun j hj => absurd hj (Nat.not_lt_zero j)⟩⟩) rfl rfl (fun _ _ => rfl)), by rw [hE2 3 4 (by unfold SjT Sj; omega)]; rfl, by rw [hE2 3 5 (by unfold SjT Sj; omega)]; rfl⟩ (Nat.le_of_ble_eq_true rfl) (Nat.le_of_ble_eq_true rfl)
  refine z_aload_n dX1_find_0 rfl rfl ?_
  refine z_gi1 (j := 4) dX1_find_1 (by decide) fl_X1_18 rfl rfl rfl ?_
  refine z_aload_n dX1_find_4 rfl rfl ?_
  refine z_gi2 (j := 3) dX1_find_5 (by decide) fl_X1_25 rfl rfl rfl ?_
  refine z_icmp_ne (tgt := 23) dX1_find_8 (by decide) rfl (fun h1 => ?_) (fun h1 => ?_)
  · exact go
  · refine z_aload_n dX1_find_11 rfl rfl ?_
    refine z_gi1 (j := 5) dX1_find_12 (by decide) fl_X1_22 rfl rfl rfl ?_
    refine z_aload_n dX1_find_15 rfl rfl ?_
    refine z_gi2 (j := 5) dX1_find_16 (by decide) fl_X1_30 rfl rfl rfl ?_
    refine z_icmp_ne (tgt := 23) dX1_find_19 (by decide) rfl (fun h2 => ?_) (fun h2 => ?_)
    · exact go
    · exact z_return dX1_find_22 rfl ⟨rfl, Eqx.rf, hK h1 h2, h1, h2⟩ (Nat.le_of_ble_eq_true rfl) (Nat.le_of_ble_eq_true rfl)
/-- BEST: where there is none, and where there is one -/
def RB (B : Bw) (od : Nat → Nat) (Q0 : Mem → Prop) (Q1 : (Nat → Nat) → Mem → Prop) : Option Value ⊕ String → Mem → Prop := fun r N => ((B.1 ≤ 7 ∧ endS (rowP B 1) od ≠ none) ∧ ∃ f, Fst B (Pm B.1) f ∧ r = .inl (some (.int (nI (e1N B f)))) ∧ Q1 f N) ∨ (¬ (B.1 ≤ 7 ∧ endS (rowP B 1) od ≠ none) ∧ r = .inl (some (.int (-1))) ∧ Q0 N)
def Sbt (a b : Nat) : Prop := Sf a b ∨ a = 9
theorem hx_of {B : Bw} {od : Nat → Nat} (hP : Pm B.1 od) (hH : ∀ r, r < 2 → ∀ w, w < B.1 → 1 ≤ pH (rowP B r) w ∧ pH (rowP B r) w ≤ 40) (hA : ∀ w o, w < B.1 → B.2.2.2.2.1 w o = true → o < w) (h : endS (rowP B 1) od ≠ none) : ∀ p, Pm B.1 p → (∃ a, endS (rowP B 1) p = some a) ∧ ∃ b, endS (rowP B 0) p = some b := fun p hp => by
  have hD := (end_ex (P := rowP B 1) hP (hH 1 (by decide)) hA).mp h
  have h1 := (end_ex (P := rowP B 1) hp (hH 1 (by decide)) hA).mpr hD
  have h0 := (end_ex (P := rowP B 0) hp (hH 0 (by decide)) hA).mpr hD
  exact ⟨Option.ne_none_iff_exists'.mp h1, Option.ne_none_iff_exists'.mp h0⟩
set_option maxHeartbeats 8000000 in
theorem c_X6_best {l : Launch} {E : EnT} (hst : l.stackTraces = false) (M : Mem) (B : Bw) (od : Nat → Nat) (hP : Pm B.1 od) (hA : ∀ w o, w < B.1 → B.2.2.2.2.1 w o = true → o < w) (hW0 : WC (rowP B 0) M 0) (hW1 : WC (rowP B 1) M 1) (hod : ∀ k, k < B.1 → M 9 k = nI (od k)) (hK : M 3 4 = M 2 3 → M 3 5 = M 2 5 → Kn B M) : Mm l E mX6_best 15 0 0 [.ref 0] M (RB B od (fun N => Eqx (Sx 1) M N) (fun f N => Eqx Sbt M N ∧ (∀ k, k < B.1 → N 9 k = nI (f k)) ∧ Kn B N ∧ N 3 4 = M 2 3 ∧ N 3 5 = M 2 5)) := by
  have hn3 : M 2 3 = nI B.1 := hW0.1
  have h16 : B.1 ≤ 16 := hW0.2.1
  refine Mm_go hst (by decide) rfl (Nat.le_of_ble_eq_true rfl) [some (.ref 0)] rfl ?_
  have no : ∀ N, ¬ (B.1 ≤ 7 ∧ endS (rowP B 1) od ≠ none) → Eqx (Sx 1) M N → Zz (zx l E mX6_best 15 (RB B od (fun N => Eqx (Sx 1) M N) (fun f N => Eqx Sbt M N ∧ (∀ k, k < B.1 → N 9 k = nI (f k)) ∧ Kn B N ∧ N 3 4 = M 2 3 ∧ N 3 5 = M 2 5))) 0 0 31 [some (.ref 0)] [] N := fun N h hE => by
    refine z_iconst (v := (-1)) dX6_best_31 (by decide) rfl ?_
    exact z_ireturn dX6_best_32 rfl (Or.inr ⟨h, rfl, hE⟩) (Nat.le_of_ble_eq_true rfl) (Nat.le_of_ble_eq_true rfl)
  refine z_aload_n dX6_best_0 rfl rfl ?_
  refine z_gr6 (j := 1) dX6_best_1 (by decide) fl_X6_19 rfl rfl rfl ?_
  refine z_gi2 (j := 3) dX6_best_4 (by decide) fl_X6_62 rfl rfl rfl ?_
  refine z_bipush (v := 7) dX6_best_7 (by decide) rfl ?_
  refine z_icmp_gt (tgt := 31) dX6_best_9 (by decide) rfl (fun h1 => ?_) (fun h1 => ?_)
  · rw [hn3] at h1
    have := lt_nn (a := 7) h1 (by decide) (by omega)
    exact no M (fun q => absurd q.1 (by omega)) Eqx.rf
  · rw [hn3] at h1
    have h7 := nlt_nn (a := 7) h1 (by decide) (by omega)
    refine z_aload_n dX6_best_12 rfl rfl ?_
    refine z_gr6 (j := 1) dX6_best_13 (by decide) fl_X6_19 rfl rfl rfl ?_
    refine z_iconst (v := 1) dX6_best_16 (by decide) rfl ?_
    refine z_tp (b := (nI 1)) rfl ?_
    refine z_aload_n dX6_best_17 rfl rfl ?_
    refine z_gr6 (j := 1) dX6_best_18 (by decide) fl_X6_19 rfl rfl rfl ?_
    refine z_gr2 (j := 1) dX6_best_21 (by decide) fl_X6_146 rfl rfl rfl ?_
    refine z_cq2 (ci := 2) (nf := 11) (y := mX2_walk) dX6_best_24 ml_X6_149 iv_X2_walk (Nat.le_of_ble_eq_true rfl) rfl (by decide) rfl (Nat.le_of_ble_eq_true rfl) (Nat.le_of_ble_eq_true rfl) (Nat.le_of_ble_eq_true rfl) (c_X2_walk hst M (rowP B 1) 1 9 16 od (by decide) rfl h16 (by decide) (Or.inl rfl) hW1 (fun k hk => ⟨hod k hk, hP.1 k hk⟩)) rfl ?_
    intro N ⟨hE, _, _⟩
    cases he : endS (rowP B 1) od with
    | none =>
      refine z_iconst (v := (-1)) dX6_best_27 (by decide) rfl ?_
      refine z_icmp_ne (tgt := 33) dX6_best_28 (by decide) rfl (fun h2 => ?_) (fun h2 => ?_)
      · exact absurd rfl h2
      · exact no N (fun q => q.2 he) hE
    | some a =>
      have ab : a ≤ 680 := end_bd (P := rowP B 1) h16 hP.1 (fun w hw => (hW1.2.2.2.2 w hw).2.2.2.2.2.2) he
      have hx := hx_of hP (fun r hr w hw => by
        rcases (by omega : r = 0 ∨ r = 1) with e | e
        · subst e; exact (hW0.2.2.2.2 w hw).2.2.2.2.2.2
        · subst e; exact (hW1.2.2.2.2 w hw).2.2.2.2.2.2) hA (by rw [he]; exact Option.some_ne_none a)
      have hE1 : Eqx Sf M N := hE.mono (fun x y q => by unfold Sx at q; unfold Sf SjT Sj; omega)
      have hE0 : Eqx (SjT 0) M N := hE.mono (fun x y q => by unfold Sx at q; unfold SjT Sj; omega)
      have f23 : N 2 3 = M 2 3 := hE 2 3 (by unfold Sx; omega)
      have f25 : N 2 5 = M 2 5 := hE 2 5 (by unfold Sx; omega)
      refine z_tp (b := (nI a)) rfl ?_
      refine z_iconst (v := (-1)) dX6_best_27 (by decide) rfl ?_
      refine z_icmp_ne (tgt := 33) dX6_best_28 (by decide) rfl (fun h2 => ?_) (fun h2 => ?_)
      · have hK2 : N 3 4 = N 2 3 → N 3 5 = N 2 5 → Kn B N := fun a b => by
          obtain ⟨f, k1, k2, k3⟩ := hK (by rw [← hE 3 4 (by unfold Sx; omega), a, f23]) (by rw [← hE 3 5 (by unfold Sx; omega), b, f25])
          exact ⟨f, k1, by rw [hE 3 1 (by unfold Sx; omega)]; exact k2, fun k hk => by rw [hE 12 k (by unfold Sx; omega)]; exact k3 k hk⟩
        refine z_aload_n dX6_best_33 rfl rfl ?_
        refine z_gr6 (j := 2) dX6_best_34 (by decide) fl_X6_26 rfl rfl rfl ?_
        refine z_aload_n dX6_best_37 rfl rfl ?_
        refine z_gr6 (j := 1) dX6_best_38 (by decide) fl_X6_19 rfl rfl rfl ?_
        refine z_cp1 (ci := 1) (nf := 6) (y := mX1_find) dX6_best_41 ml_X6_156 iv_X1_find (Nat.le_of_ble_eq_true rfl) rfl (by decide) rfl (Nat.le_of_ble_eq_true rfl) (Nat.le_of_ble_eq_true rfl) (Nat.le_of_ble_eq_true rfl) (c_X1_find hst B h7 hx N (hW0.keepJ (by decide) hE0) (hW1.keepJ (by decide) hE0) hK2) rfl ?_
        intro N2 ⟨hE2, ⟨f, k1, k2, k3⟩, q4, q5⟩
        have hEM : Eqx Sf M N2 := hE1.tr hE2
        refine z_aload_n dX6_best_44 rfl rfl ?_
        refine z_gr6 (j := 2) dX6_best_45 (by decide) fl_X6_26 rfl rfl rfl ?_
        refine z_gr1 (j := 0) dX6_best_48 (by decide) fl_X6_160 rfl rfl rfl ?_
        refine z_iconst (v := 0) dX6_best_51 (by decide) rfl ?_
        refine z_aload_n dX6_best_52 rfl rfl ?_
        refine z_gr6 (j := 1) dX6_best_53 (by decide) fl_X6_19 rfl rfl rfl ?_
        refine z_gr2 (j := 1) dX6_best_56 (by decide) fl_X6_146 rfl rfl rfl ?_
        refine z_iconst (v := 0) dX6_best_59 (by decide) rfl ?_
        refine z_aload_n dX6_best_60 rfl rfl ?_
        refine z_gr6 (j := 1) dX6_best_61 (by decide) fl_X6_19 rfl rfl rfl ?_
        refine z_gi2 (j := 3) dX6_best_64 (by decide) fl_X6_62 rfl rfl rfl ?_
        refine z_copy dX6_best_67 ml_X6_163 (Nat.le_of_ble_eq_true rfl) (Nat.le_of_ble_eq_true rfl) (n0 := 7) (n1 := 16) (m := B.1) rfl rfl (by rw [hEM 2 3 (by unfold Sf SjT Sj; omega)]; exact hn3) (by omega) (by omega) (by omega) rfl ?_
        have n9 : ∀ k, k < B.1 → fil N2 9 0 B.1 (N2 12) 9 k = nI (f k) := fun k hk => by rw [fil_i (Nat.zero_le _) (by omega), Nat.sub_zero]; exact k3 k hk
        have hK2 : Kn B (fil N2 9 0 B.1 (N2 12)) := ⟨f, k1, k2, fun k hk => by rw [fil_o (by decide)]; exact k3 k hk⟩
        refine z_aload_n dX6_best_70 rfl rfl ?_
        refine z_gr6 (j := 2) dX6_best_71 (by decide) fl_X6_26 rfl rfl rfl ?_
        refine z_gi1 (j := 1) dX6_best_74 (by decide) fl_X6_169 rfl rfl rfl ?_
        exact z_ireturn dX6_best_77 rfl (Or.inl ⟨⟨h7, by rw [he]; exact Option.some_ne_none a⟩, f, k1, by rw [fil_o (by decide), k2], fun x y q => by rw [fil_o (fun e => q (Or.inr e))]; exact hEM x y (fun z => q (Or.inl z)), n9, hK2, by rw [fil_o (by decide), q4, f23], by rw [fil_o (by decide), q5, f25]⟩) (Nat.le_of_ble_eq_true rfl) (Nat.le_of_ble_eq_true rfl)
      · exact absurd h2 (nI_nm1 (by omega))
