/-! tryFrom -/
theorem SjT_mono {p q a b : Nat} (h : q ≤ p) (x : SjT p a b) : SjT q a b := x.imp id (fun z => ⟨z.1, by omega⟩)
def upN (t : Nat → Nat) (pos j : Nat) : Nat → Nat := fun k => if k = pos then j else t k
theorem upN_s {t : Nat → Nat} {pos j : Nat} : upN t pos j pos = j := if_pos rfl
theorem upN_o {t : Nat → Nat} {pos j k : Nat} (h : k ≠ pos) : upN t pos j k = t k := if_neg h
def Nd (B : Bw) (p : Nat → Nat) : Prop := Pm B.1 p ∧ ¬ Ndl B p
def Tb (B : Bw) (t : Nat → Nat) (pos : Nat) : OrS := fun p => Nd B p ∧ ∃ i, i < pos ∧ (∀ j, j < i → p j = t j) ∧ p i < t i
def Ta (B : Bw) (t : Nat → Nat) (pos : Nat) : OrS := fun p => Tb B t pos p ∨ (Nd B p ∧ ∀ j, j < pos → p j = t j)
def Tl (B : Bw) (t : Nat → Nat) (pos j : Nat) : OrS := fun p => Tb B t pos p ∨ (Nd B p ∧ (∀ i, i < pos → p i = t i) ∧ p pos < j)
theorem set0 {B : Bw} {t p : Nat → Nat} {pos : Nat} : Tb B t pos p ↔ Tl B t pos 0 p := ⟨Or.inl, fun h => h.resolve_right (fun q => absurd q.2.2 (Nat.not_lt_zero _))⟩
theorem set1 {B : Bw} {t p : Nat → Nat} {pos j : Nat} : Tl B t pos j p ↔ Tb B (upN t pos j) (pos + 1) p := by
  unfold Tl Tb
  constructor
  · rintro (⟨h1, i, h2, h3, h4⟩ | ⟨h1, h2, h3⟩)
    · exact ⟨h1, i, by omega, fun k hk => by rw [upN_o (by omega)]; exact h3 k hk, by rw [upN_o (by omega)]; exact h4⟩
    · exact ⟨h1, pos, by omega, fun k hk => by rw [upN_o (by omega)]; exact h2 k hk, by rw [upN_s]; exact h3⟩
  · rintro ⟨h1, i, h2, h3, h4⟩
    rcases Nat.lt_or_ge i pos with q | q
    · rw [upN_o (by omega)] at h4
      exact Or.inl ⟨h1, i, q, fun k hk => by rw [h3 k hk, upN_o (by omega)], h4⟩
    · have e : i = pos := by omega
      subst e
      rw [upN_s] at h4
      exact Or.inr ⟨h1, fun k hk => by rw [h3 k hk, upN_o (by omega)], h4⟩
theorem set2 {B : Bw} {t p : Nat → Nat} {pos j : Nat} : Ta B (upN t pos j) (pos + 1) p ↔ Tl B t pos (j + 1) p := by
  unfold Ta
  rw [← set1]
  unfold Tl
  constructor
  · rintro ((h | ⟨h1, h2, h3⟩) | ⟨h1, h2⟩)
    · exact Or.inl h
    · exact Or.inr ⟨h1, h2, by omega⟩
    · refine Or.inr ⟨h1, fun k hk => by rw [h2 k (by omega), upN_o (by omega)], ?_⟩
      rw [h2 pos (by omega), upN_s]; omega
  · rintro (h | ⟨h1, h2, h3⟩)
    · exact Or.inl (Or.inl h)
    · rcases Nat.lt_or_ge (p pos) j with q | q
      · exact Or.inl (Or.inr ⟨h1, h2, q⟩)
      · refine Or.inr ⟨h1, fun k hk => ?_⟩
        by_cases e : k = pos
        · subst e; rw [upN_s]; omega
        · rw [upN_o e]; exact h2 k (by omega)
theorem setn {B : Bw} {t p : Nat → Nat} {pos : Nat} (h : pos < B.1) : Tl B t pos B.1 p ↔ Ta B t pos p := by
  unfold Tl Ta
  constructor
  · rintro (h | ⟨h1, h2, h3⟩)
    · exact Or.inl h
    · exact Or.inr ⟨h1, h2⟩
  · rintro (h1 | ⟨h1, h2⟩)
    · exact Or.inl h1
    · exact Or.inr ⟨h1, h2, h1.1.1 pos h⟩
theorem setk {B : Bw} {t p : Nat → Nat} {pos j : Nat} (h : ∀ p, Nd B p → (∀ i, i < pos → p i = t i) → p pos ≠ j) : Tl B t pos j p ↔ Tl B t pos (j + 1) p := by
  unfold Tl
  constructor
  · rintro (h1 | ⟨h1, h2, h3⟩)
    · exact Or.inl h1
    · exact Or.inr ⟨h1, h2, by omega⟩
  · rintro (h1 | ⟨h1, h2, h3⟩)
    · exact Or.inl h1
    · have := h p h1 h2
      exact Or.inr ⟨h1, h2, by omega⟩
theorem CBs_cg {B : Bw} {T T2 : OrS} {N N2 : Mem} {c : Nat} (h : CBs B T N c) (he : ∀ p, T p ↔ T2 p) (h1 : N2 3 1 = N 3 1) (h3 : N2 3 3 = N 3 3) (hN : ∀ k, k < B.1 → N2 c k = N c k) : CBs B T2 N2 c := by
  obtain ⟨em, el, c1, c2, c3, c4, c5⟩ := h
  exact ⟨em, el, c1, c2, by rw [h1]; exact c3, by rw [h3]; exact c4, CB_cg c5 he hN⟩
/-- a beginning of an order -/
def PreO (B : Bw) (M : Mem) (t : Nat → Nat) (pos : Nat) (msk : Int32) : Prop := (∀ k, k < pos → M 13 k = nI (t k) ∧ t k < B.1) ∧ (∀ i j, i < pos → j < pos → t i = t j → i = j) ∧ (∀ i, i + 1 < pos → t (i + 1) < t i → ¬ NL (rowP B 1) (t i) (t (i + 1))) ∧ ∀ i, i < 32 → (bt msk i = true ↔ ∃ k, k < pos ∧ t k = i)
set_option maxHeartbeats 8000000 in
theorem c_X1_tryFrom {l : Launch} {E : EnT} (hst : l.stackTraces = false) (B : Bw) (h7 : B.1 ≤ 7) (hx : ∀ p, Pm B.1 p → (∃ a, endS (rowP B 1) p = some a) ∧ ∃ b, endS (rowP B 0) p = some b) : ∀ (k pos : Nat), pos + k = B.1 → ∀ (M : Mem) (t : Nat → Nat) (msk : Int32), WC (rowP B 0) M 0 → WC (rowP B 1) M 1 → PreO B M t pos msk → CBs B (Tb B t pos) M 12 → Mm l E mX1_tryFrom (k + 6) 0 0 [.ref 3, .ref 2, .int (nI pos), .int msk] M (RP none (fun N => Eqx (SjT pos) M N ∧ CBs B (Ta B t pos) N 12)) := by
  intro k
  induction k with
  | zero =>
    intro pos hpos M t msk hW0 hW1 hP hC
    have e : pos = B.1 := by omega
    subst e
    obtain ⟨p1, p2, p3, p4⟩ := hP
    have hPm : Pm B.1 t := ⟨fun k hk => (p1 k hk).2, p2⟩
    obtain ⟨⟨a, ha⟩, ⟨b, hb⟩⟩ := hx t hPm
    have hNd : Nd B t := ⟨hPm, fun ⟨i, i1, i2, i3⟩ => p3 i i1 i2 i3⟩
    have hT : ∀ p, Ta B t B.1 p ↔ (Tb B t B.1 p ∨ eqP B.1 p t) := fun p => by
      unfold Ta
      constructor
      · rintro (h | ⟨h1, h2⟩)
        · exact Or.inl h
        · exact Or.inr h2
      · rintro (h | h)
        · exact Or.inl h
        · exact Or.inr ⟨⟨Pm_cg (fun k hk => (h k hk).symm) hPm, fun q => hNd.2 (Ndl_cg h q)⟩, h⟩
    refine Mm_go hst (by decide) rfl (Nat.le_of_ble_eq_true rfl) [some (.ref 3), some (.ref 2), some (.int (nI B.1)), some (.int msk), none] rfl ?_
    refine z_iload_n dX1_tryFrom_0 rfl rfl ?_
    refine z_aload_n dX1_tryFrom_1 rfl rfl ?_
    refine z_gi2 (j := 3) dX1_tryFrom_2 (by decide) fl_X1_25 rfl rfl rfl ?_
    refine z_icmp_ge (tgt := 14) dX1_tryFrom_5 (by decide) rfl (fun hc => ?_) (fun hc => ?_)
    · refine z_aload_n dX1_tryFrom_14 rfl rfl ?_
      refine z_aload_n dX1_tryFrom_15 rfl rfl ?_
      refine z_cp1 (ci := 1) (nf := 6) (y := mX1_judge) dX1_tryFrom_16 ml_X1_44 iv_X1_judge (by first | exact Nat.le_of_ble_eq_true rfl | exact Nat.le_refl _) rfl (by decide) rfl (Nat.le_of_ble_eq_true rfl) (Nat.le_of_ble_eq_true rfl) (Nat.le_of_ble_eq_true rfl) (c_X1_judge hst M B t (Tb B t B.1) (Ta B t B.1) a b h7 hW0 hW1 p1 ha hb hT (fun p hp => hp.2) hC) rfl ?_
      intro N ⟨hE, hN⟩
      exact z_return dX1_tryFrom_19 rfl ⟨rfl, hE.mono (fun _ _ q => Or.inl q), hN⟩ (Nat.le_of_ble_eq_true rfl) (Nat.le_of_ble_eq_true rfl)
    · exact absurd (by rw [hW0.1]; exact nI_le (Nat.le_refl _) (by omega)) hc
  | succ k ih =>
    intro pos hpos M t msk hW0 hW1 hP hC
    obtain ⟨p1, p2, p3, p4⟩ := hP
    refine Mm_go hst (by decide) rfl (Nat.le_of_ble_eq_true rfl) [some (.ref 3), some (.ref 2), some (.int (nI pos)), some (.int msk), none] rfl ?_
    refine z_iload_n dX1_tryFrom_0 rfl rfl ?_
    refine z_aload_n dX1_tryFrom_1 rfl rfl ?_
    refine z_gi2 (j := 3) dX1_tryFrom_2 (by decide) fl_X1_25 rfl rfl rfl ?_
    refine z_icmp_ge (tgt := 14) dX1_tryFrom_5 (by decide) rfl (fun hc => ?_) (fun hc => ?_)
    · exact absurd hc (by rw [hW0.1]; exact nI_ge (show pos < B.1 by omega) (Nat.lt_of_le_of_lt h7 (by decide)))
    · refine z_iload_n dX1_tryFrom_8 rfl rfl ?_
      refine z_bipush (v := 7) dX1_tryFrom_9 (by decide) rfl ?_
      refine z_icmp_lt (tgt := 20) dX1_tryFrom_11 (by decide) rfl (fun hc2 => ?_) (fun hc2 => ?_)
      · refine z_iconst (v := 0) dX1_tryFrom_20 (by decide) rfl ?_
        refine z_ist4 dX1_tryFrom_21 (Nat.le_of_ble_eq_true rfl) rfl ?_
        have loop : ∀ (m j : Nat), j + m = B.1 → ∀ (N : Mem), Eqx (SjT pos) M N → CBs B (Tl B t pos j) N 12 → Zz (zx l E mX1_tryFrom (k + 1 + 6) (RP none (fun N => Eqx (SjT pos) M N ∧ CBs B (Ta B t pos) N 12))) 0 0 23 [some (.ref 3), some (.ref 2), some (.int (nI pos)), some (.int msk), some (.int (nI j))] [] N := by
          intro m
          induction m with
          | zero =>
            intro j hj N hE hN
            have ej : j = B.1 := by omega
            subst ej
            have n3 : N 2 3 = nI B.1 := by rw [hE 2 3 (by unfold SjT Sj; omega)]; exact hW0.1
            refine z_iload dX1_tryFrom_23 rfl rfl ?_
            refine z_aload_n dX1_tryFrom_25 rfl rfl ?_
            refine z_gi2 (j := 3) dX1_tryFrom_26 (by decide) fl_X1_25 rfl rfl rfl ?_
            refine z_icmp_ge (tgt := 80) dX1_tryFrom_29 (by decide) rfl (fun g => ?_) (fun g => ?_)
            · exact z_return dX1_tryFrom_80 rfl ⟨rfl, hE, CBs_cg hN (fun p => setn (by omega)) rfl rfl (fun _ _ => rfl)⟩ (Nat.le_of_ble_eq_true rfl) (Nat.le_of_ble_eq_true rfl)
            · exact absurd (by rw [n3]; exact nI_le (Nat.le_refl _) (by omega)) g
          | succ m ihm =>
            intro j hj N hE hN
            have hE0 : Eqx (SjT 0) M N := hE.mono (fun x y q => SjT_mono (by omega) q)
            have n3 : N 2 3 = nI B.1 := by rw [hE 2 3 (by unfold SjT Sj; omega)]; exact hW0.1
            have skp : (∀ p, Nd B p → (∀ i, i < pos → p i = t i) → p pos ≠ j) → Zz (zx l E mX1_tryFrom (k + 1 + 6) (RP none (fun N => Eqx (SjT pos) M N ∧ CBs B (Ta B t pos) N 12))) 0 0 74 [some (.ref 3), some (.ref 2), some (.int (nI pos)), some (.int msk), some (.int (nI j))] [] N := fun q => by
              first | refine z_iu4 dX1_tryFrom_74 (Nat.le_of_ble_eq_true rfl) rfl ?_ | refine z_inc4 dX1_tryFrom_74 (Nat.le_of_ble_eq_true rfl) rfl rfl ?_
              refine z_goto (tgt := 23) dX1_tryFrom_77 (by decide) ?_
              exact ihm (j + 1) (by omega) N hE (CBs_cg hN (fun p => setk q) rfl rfl (fun _ _ => rfl))
            have t13 : ∀ i, i < pos → N 13 i = nI (t i) ∧ t i < B.1 := fun i hi => ⟨by rw [hE 13 i (by unfold SjT Sj; omega)]; exact (p1 i hi).1, (p1 i hi).2⟩
            have tst : (msk &&& ((1 : Int32) <<< (nI j &&& 31)) = 0) ↔ bt msk j = false := by
              rw [b_eq0]
              constructor
              · intro q
                have := q j (by omega)
                rw [b_and, b_one _ (by omega) _ (by omega)] at this
                simpa using this
              · intro q i hi
                rw [b_and, b_one _ (by omega) i hi]
                by_cases hij : i = j
                · subst hij; simp [q]
                · simp [hij]
            refine z_iload dX1_tryFrom_23 rfl rfl ?_
            refine z_aload_n dX1_tryFrom_25 rfl rfl ?_
            refine z_gi2 (j := 3) dX1_tryFrom_26 (by decide) fl_X1_25 rfl rfl rfl ?_
            refine z_icmp_ge (tgt := 80) dX1_tryFrom_29 (by decide) rfl (fun g => ?_) (fun g => ?_)
            · exact absurd g (by rw [n3]; exact nI_ge (show j < B.1 by omega) (by omega))
            · refine z_iload_n dX1_tryFrom_32 rfl rfl ?_
              refine z_iconst (v := 1) dX1_tryFrom_33 (by decide) rfl ?_
              refine z_iload dX1_tryFrom_34 rfl rfl ?_
              refine z_ishl dX1_tryFrom_36 rfl ?_
              refine z_iand dX1_tryFrom_37 rfl ?_
              refine z_if_ne (tgt := 74) dX1_tryFrom_38 (by decide) rfl (fun g1 => ?_) (fun g1 => ?_)
              · have hb : bt msk j = true := by
                  cases q : bt msk j
                  · exact absurd (tst.mpr q) g1
                  · rfl
                obtain ⟨i, i1, i2⟩ := (p4 j (by omega)).mp hb
                exact skp (fun p hp hpt e => by have := hp.1.2 i pos (by omega) (by omega) (by rw [hpt i i1, i2, e]); omega)
              · have hbf := tst.mp g1
                have hun : ∀ i, i < pos → t i ≠ j := fun i hi e => by
                  rw [(p4 j (by omega)).mpr ⟨i, hi, e⟩] at hbf; cases hbf
                refine z_aload_n dX1_tryFrom_41 rfl rfl ?_
                refine z_aload_n dX1_tryFrom_42 rfl rfl ?_
                refine z_iload_n dX1_tryFrom_43 rfl rfl ?_
                refine z_iload dX1_tryFrom_44 rfl rfl ?_
                refine z_cv3 (ci := 1) (nf := 6) (y := mX1_isNeedless) dX1_tryFrom_46 ml_X1_48 iv_X1_isNeedless (by first | exact Nat.le_of_ble_eq_true rfl | exact Nat.le_refl _) rfl (by decide) rfl (Nat.le_of_ble_eq_true rfl) (Nat.le_of_ble_eq_true rfl) (Nat.le_of_ble_eq_true rfl) (c_X1_isNeedless hst N (rowP B 1) 1 pos j t (hW1.keepJ (by decide) hE0) (by omega) t13 (show j < B.1 by omega)) rfl ?_
                cases hnd : ndB (rowP B 1) t pos j with
                | true =>
                  refine z_if_ne (tgt := 74) dX1_tryFrom_49 (by decide) rfl (fun g2 => ?_) (fun g2 => ?_)
                  · refine skp (fun p hp hpt e => hp.2 ?_)
                    unfold ndB at hnd
                    rw [Bool.and_eq_true, Bool.and_eq_true, decide_eq_true_eq, decide_eq_true_eq] at hnd
                    obtain ⟨d1, d2, d3⟩ := hnd
                    have := hun (pos - 1) (by omega)
                    refine ⟨pos - 1, by omega, ?_, ?_⟩
                    · rw [show pos - 1 + 1 = pos by omega, e, hpt (pos - 1) (by omega)]; omega
                    · rw [show pos - 1 + 1 = pos by omega, e, hpt (pos - 1) (by omega)]; exact NL_iff.mpr d3
                  · exact absurd g2 (by decide)
                | false =>
                  refine z_if_ne (tgt := 74) dX1_tryFrom_49 (by decide) rfl (fun g2 => ?_) (fun g2 => ?_)
                  · exact absurd rfl g2
                  · refine z_aload_n dX1_tryFrom_52 rfl rfl ?_
                    refine z_gr1 (j := 2) dX1_tryFrom_53 (by decide) fl_X1_15 rfl rfl rfl ?_
                    refine z_iload_n dX1_tryFrom_56 rfl rfl ?_
                    refine z_iload dX1_tryFrom_57 rfl rfl ?_
                    refine z_iast dX1_tryFrom_59 (by first | rfl | exact knd_h (by omega) | exact knd_s (by omega)) rfl (by omega) (by decide) rfl ?_
                    refine z_aload_n dX1_tryFrom_60 rfl rfl ?_
                    refine z_aload_n dX1_tryFrom_61 rfl rfl ?_
                    refine z_iload_n dX1_tryFrom_62 rfl rfl ?_
                    refine z_iconst (v := 1) dX1_tryFrom_63 (by decide) rfl ?_
                    refine z_iadd dX1_tryFrom_64 rfl ?_
                    refine z_tp (b := (nI (pos + 1))) (nI_1 pos) ?_
                    refine z_iload_n dX1_tryFrom_65 rfl rfl ?_
                    refine z_iconst (v := 1) dX1_tryFrom_66 (by decide) rfl ?_
                    refine z_iload dX1_tryFrom_67 rfl rfl ?_
                    refine z_ishl dX1_tryFrom_69 rfl ?_
                    refine z_ior dX1_tryFrom_70 rfl ?_
                    have hEm : Eqx (SjT pos) M (mu N 13 pos (nI j)) := hE.mu (by unfold SjT; omega)
                    have hPre : PreO B (mu N 13 pos (nI j)) (upN t pos j) (pos + 1) (msk ||| ((1 : Int32) <<< (nI j &&& 31))) := by
                      refine ⟨fun i hi => ?_, fun a b ha hb he => ?_, fun i hi hlt => ?_, fun i hi => ?_⟩
                      · by_cases e : i = pos
                        · subst e; rw [upN_s, mu_k]; exact ⟨if_pos rfl, by omega⟩
                        · rw [upN_o e, mu_k]; exact ⟨(if_neg e).trans (t13 i (by omega)).1, (t13 i (by omega)).2⟩
                      · by_cases e1 : a = pos <;> by_cases e2 : b = pos
                        · omega
                        · subst e1; rw [upN_s, upN_o e2] at he; exact absurd he.symm (hun b (by omega))
                        · subst e2; rw [upN_s, upN_o e1] at he; exact absurd he (hun a (by omega))
                        · rw [upN_o e1, upN_o e2] at he; exact p2 a b (by omega) (by omega) he
                      · rw [upN_o (show i ≠ pos by omega)] at hlt ⊢
                        by_cases e : i + 1 = pos
                        · rw [e, upN_s] at hlt ⊢
                          intro q
                          have q2 := NL_iff.mp q
                          unfold ndB at hnd
                          rw [show pos - 1 = i by omega, q2, decide_eq_true (show 0 < pos by omega), decide_eq_true (show j ≤ t i by omega)] at hnd
                          cases hnd
                        · rw [upN_o e] at hlt ⊢
                          exact p3 i (by omega) hlt
                      · rw [b_or, Bool.or_eq_true, p4 i hi, b_one j (by omega) i hi, decide_eq_true_eq]
                        constructor
                        · rintro (⟨a, a1, a2⟩ | h)
                          · exact ⟨a, by omega, by rw [upN_o (by omega)]; exact a2⟩
                          · exact ⟨pos, by omega, by rw [upN_s]; exact h.symm⟩
                        · rintro ⟨a, a1, a2⟩
                          by_cases e : a = pos
                          · subst e; rw [upN_s] at a2; exact Or.inr a2.symm
                          · rw [upN_o e] at a2; exact Or.inl ⟨a, by omega, a2⟩
                    refine z_cp3 (ci := 1) (nf := 6) (y := mX1_tryFrom) dX1_tryFrom_71 ml_X1_40 iv_X1_tryFrom (by first | exact Nat.le_of_ble_eq_true rfl | exact Nat.le_refl _) rfl (by decide) rfl (Nat.le_of_ble_eq_true rfl) (Nat.le_of_ble_eq_true rfl) (Nat.le_of_ble_eq_true rfl) (ih (pos + 1) (by omega) (mu N 13 pos (nI j)) (upN t pos j) (msk ||| ((1 : Int32) <<< (nI j &&& 31))) (hW0.keepJ (by decide) (hEm.mono (fun x y q => SjT_mono (by omega) q))) (hW1.keepJ (by decide) (hEm.mono (fun x y q => SjT_mono (by omega) q))) hPre (CBs_cg hN (fun p => set1) rfl rfl (fun _ _ => rfl))) rfl ?_
                    intro N2 ⟨hE2, hN2⟩
                    first | refine z_iu4 dX1_tryFrom_74 (Nat.le_of_ble_eq_true rfl) rfl ?_ | refine z_inc4 dX1_tryFrom_74 (Nat.le_of_ble_eq_true rfl) rfl rfl ?_
                    refine z_goto (tgt := 23) dX1_tryFrom_77 (by decide) ?_
                    exact ihm (j + 1) (by omega) N2 (hEm.tr (hE2.mono (fun x y q => SjT_mono (by omega) q))) (CBs_cg hN2 (fun p => set2) rfl rfl (fun _ _ => rfl))
        exact loop B.1 0 (by omega) M Eqx.rf (CBs_cg hC (fun p => set0) rfl rfl (fun _ _ => rfl))
      · exact absurd (nI_lt (a := pos) (b := 7) (by omega) (by decide)) hc2
