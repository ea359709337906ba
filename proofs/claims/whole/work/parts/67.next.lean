/-! the reference's BEST: the next order -/
def usB (c : Nat → Nat) (v : Nat) : Nat → Bool
  | 0 => false
  | k + 1 => usB c v k || decide (c k = v)
theorem usB_iff {c : Nat → Nat} {v : Nat} : ∀ {k : Nat}, usB c v k = true ↔ ∃ i, i < k ∧ c i = v
  | 0 => ⟨fun h => (nomatch h), fun ⟨i, hi, _⟩ => absurd hi (Nat.not_lt_zero i)⟩
  | k + 1 => by
    rw [usB, Bool.or_eq_true, usB_iff (k := k), decide_eq_true_eq]
    constructor
    · rintro (⟨i, h1, h2⟩ | h)
      · exact ⟨i, by omega, h2⟩
      · exact ⟨k, by omega, h⟩
    · rintro ⟨i, h1, h2⟩
      rcases Nat.lt_or_ge i k with q | q
      · exact Or.inl ⟨i, q, h2⟩
      · have : i = k := by omega
        subst this; exact Or.inr h2
theorem usB_no {c : Nat → Nat} {v k : Nat} (h : usB c v k = false) : ∀ i, i < k → c i ≠ v := fun i hi e => by
  rw [usB_iff.mpr ⟨i, hi, e⟩] at h; cases h
set_option maxHeartbeats 4000000 in
theorem c_X7_isUsed {l : Launch} {E : EnT} (hst : l.stackTraces = false) (M : Mem) (c : Nat → Nat) (n v : Nat) (h16 : n ≤ 16) (hv : v ≤ 100) (hc : ∀ k, k < n → M 107 k = nI (c k) ∧ c k ≤ 100) : Mm l E mX7_isUsed 0 0 0 [.ref 99, .int (nI n), .int (nI v)] M (Rt (some (.int (bI (usB c v n)))) M) := by
  refine Mm_go hst (by decide) rfl (Nat.le_of_ble_eq_true rfl) [some (.ref 99), some (.int (nI n)), some (.int (nI v)), none] rfl ?_
  refine z_iconst (v := 0) dX7_isUsed_0 (by decide) rfl ?_
  refine z_ist3 dX7_isUsed_1 (Nat.le_of_ble_eq_true rfl) rfl ?_
  have loop : ∀ (m j : Nat), j + m = n → usB c v j = false → Zz (zx l E mX7_isUsed 0 (Rt (some (.int (bI (usB c v n)))) M)) 0 0 2 [some (.ref 99), some (.int (nI n)), some (.int (nI v)), some (.int (nI j))] [] M := by
    intro m
    induction m with
    | zero =>
      intro j hj hu
      have e : j = n := by omega
      subst e
      rw [hu]
      refine z_iload_n dX7_isUsed_2 rfl rfl ?_
      refine z_iload_n dX7_isUsed_3 rfl rfl ?_
      refine z_icmp_ge (tgt := 25) dX7_isUsed_4 (by decide) rfl (fun g => ?_) (fun g => ?_)
      · refine z_iconst (v := 0) dX7_isUsed_25 (by decide) rfl ?_
        exact z_zreturn dX7_isUsed_26 rfl rfl ⟨rfl, rfl⟩ (Nat.le_of_ble_eq_true rfl) (Nat.le_of_ble_eq_true rfl)
      · exact absurd (nI_le (Nat.le_refl _) (by omega)) g
    | succ m ih =>
      intro j hj hu
      obtain ⟨c1, c2⟩ := hc j (by omega)
      refine z_iload_n dX7_isUsed_2 rfl rfl ?_
      refine z_iload_n dX7_isUsed_3 rfl rfl ?_
      refine z_icmp_ge (tgt := 25) dX7_isUsed_4 (by decide) rfl (fun g => ?_) (fun g => ?_)
      · exact absurd g (nI_ge (by omega) (by omega))
      · refine z_aload_n dX7_isUsed_7 rfl rfl ?_
        refine z_gr7 (j := 13) dX7_isUsed_8 (by decide) fl_X7_36 rfl rfl rfl ?_
        refine z_iload_n dX7_isUsed_11 rfl rfl ?_
        refine z_iald dX7_isUsed_12 (by first | rfl | exact knd_h (by omega) | exact knd_s (by omega)) rfl (by omega) (by decide) rfl ?_
        refine z_iload_n dX7_isUsed_13 rfl rfl ?_
        refine z_icmp_ne (tgt := 19) dX7_isUsed_14 (by decide) rfl (fun g1 => ?_) (fun g1 => ?_)
        · rw [c1] at g1
          first | refine z_iu3 dX7_isUsed_19 (Nat.le_of_ble_eq_true rfl) rfl ?_ | refine z_inc3 dX7_isUsed_19 (Nat.le_of_ble_eq_true rfl) rfl rfl ?_
          refine z_goto (tgt := 2) dX7_isUsed_22 (by decide) ?_
          exact ih (j + 1) (by omega) (by rw [usB, hu, decide_eq_false (fun q => g1 (by rw [q]))]; rfl)
        · rw [c1] at g1
          have e := (nI_eq (by omega) (by omega)).mp g1
          rw [usB_iff.mpr ⟨j, by omega, e⟩]
          refine z_iconst (v := 1) dX7_isUsed_17 (by decide) rfl ?_
          exact z_zreturn dX7_isUsed_18 rfl rfl ⟨rfl, rfl⟩ (Nat.le_of_ble_eq_true rfl) (Nat.le_of_ble_eq_true rfl)
  exact loop n 0 (by omega) rfl
/-- the order that follows, or none -/
def NxQ (n : Nat) (c : Nat → Nat) (M : Mem) : Option Value ⊕ String → Mem → Prop := fun r N => Eqx (fun a _ => a = 107) M N ∧ ((r = .inl (some (.int 1)) ∧ ∃ g, Pm n g ∧ (∀ k, k < n → N 107 k = nI (g k)) ∧ ltP n c g ∧ ∀ p, Pm n p → (ltP n p g ↔ (ltP n p c ∨ eqP n p c))) ∨ (r = .inl (some (.int 0)) ∧ ∀ p, Pm n p → (ltP n p c ∨ eqP n p c)))
set_option maxHeartbeats 8000000 in
theorem c_X7_isNext {l : Launch} {E : EnT} (hst : l.stackTraces = false) (M : Mem) (c : Nat → Nat) (n : Nat) (h7 : n ≤ 7) (hn : M 99 14 = nI n) (hP : Pm n c) (hc : ∀ k, k < n → M 107 k = nI (c k)) : Mm l E mX7_isNext 1 0 0 [.ref 99] M (NxQ n c M) := by
  refine Mm_go hst (by decide) rfl (Nat.le_of_ble_eq_true rfl) [some (.ref 99), none, none, none, none] rfl ?_
  refine z_aload_n dX7_isNext_0 rfl rfl ?_
  refine z_gi7 (j := 14) dX7_isNext_1 (by decide) fl_X7_144 rfl rfl rfl ?_
  refine z_iconst (v := 1) dX7_isNext_4 (by decide) rfl ?_
  refine z_isub dX7_isNext_5 rfl ?_
  refine z_tp (b := (nI n + (-1))) (by rw [hn]; exact Int32.sub_eq_add_neg _ _) ?_
  refine z_ist1 dX7_isNext_6 (Nat.le_of_ble_eq_true rfl) rfl ?_
  have loop : ∀ (m : Nat), m ≤ n → (∀ p, Pm n p → (∀ j, j < m → p j = c j) → ltP n p c ∨ eqP n p c) → ∀ (u2 u3 u4 : Option Value), Zz (zx l E mX7_isNext 1 (NxQ n c M)) 0 0 7 [some (.ref 99), some (.int (nI m + (-1))), u2, u3, u4] [] M := by
    intro m
    induction m with
    | zero =>
      intro _ hI u2 u3 u4
      refine z_iload_n dX7_isNext_7 rfl rfl ?_
      refine z_if_lt (tgt := 114) dX7_isNext_8 (by decide) rfl (fun g => ?_) (fun g => ?_)
      · refine z_iconst (v := 0) dX7_isNext_114 (by decide) rfl ?_
        exact z_zreturn dX7_isNext_115 rfl rfl ⟨Eqx.rf, Or.inr ⟨rfl, fun p hp => hI p hp (fun j hj => absurd hj (Nat.not_lt_zero j))⟩⟩ (Nat.le_of_ble_eq_true rfl) (Nat.le_of_ble_eq_true rfl)
      · exact absurd (by decide) g
    | succ i ih =>
      intro hin hI u2 u3 u4
      have hci := hP.1 i (by omega)
      have e0 : nI (i + 1) + (-1) = nI i := by rw [← nI_1, Int32.add_assoc, show (1 : Int32) + (-1) = 0 from rfl, Int32.add_zero]
      rw [e0]
      refine z_iload_n dX7_isNext_7 rfl rfl ?_
      refine z_if_lt (tgt := 114) dX7_isNext_8 (by decide) rfl (fun g => ?_) (fun g => ?_)
      · exact absurd g (nI_pos (by omega))
      · refine z_aload_n dX7_isNext_11 rfl rfl ?_
        refine z_gr7 (j := 13) dX7_isNext_12 (by decide) fl_X7_36 rfl rfl rfl ?_
        refine z_iload_n dX7_isNext_15 rfl rfl ?_
        refine z_iald dX7_isNext_16 (by first | rfl | exact knd_h (by omega) | exact knd_s (by omega)) rfl (by omega) (by decide) rfl ?_
        refine z_tp (b := (nI (c i))) (hc i (by omega)) ?_
        refine z_iconst (v := 1) dX7_isNext_17 (by decide) rfl ?_
        refine z_iadd dX7_isNext_18 rfl ?_
        refine z_tp (b := (nI (c i + 1))) (nI_1 _) ?_
        refine z_ist2 dX7_isNext_19 (Nat.le_of_ble_eq_true rfl) rfl ?_
        -- the next value for this place
        have up : ∀ (f v : Nat), v + f = n → c i < v → (∀ u, c i < u → u < v → ∃ k, k < i ∧ c k = u) → Zz (zx l E mX7_isNext 1 (NxQ n c M)) 0 0 20 [some (.ref 99), some (.int (nI i)), some (.int (nI v)), u3, u4] [] M := by
          intro f
          induction f with
          | zero =>
            intro v hv hcv hu
            have e : v = n := by omega
            subst e
            refine z_iload_n dX7_isNext_20 rfl rfl ?_
            refine z_aload_n dX7_isNext_21 rfl rfl ?_
            refine z_gi7 (j := 14) dX7_isNext_22 (by decide) fl_X7_144 rfl rfl rfl ?_
            refine z_icmp_ge (tgt := 43) dX7_isNext_25 (by decide) rfl (fun g1 => ?_) (fun g1 => ?_)
            · refine z_iload_n dX7_isNext_43 rfl rfl ?_
              refine z_aload_n dX7_isNext_44 rfl rfl ?_
              refine z_gi7 (j := 14) dX7_isNext_45 (by decide) fl_X7_144 rfl rfl rfl ?_
              refine z_icmp_ne (tgt := 54) dX7_isNext_48 (by decide) rfl (fun g2 => ?_) (fun g2 => ?_)
              · exact absurd (by rw [hn]) g2
              · refine z_goto (tgt := 108) dX7_isNext_51 (by decide) ?_
                refine z_inc1 dX7_isNext_108 (Nat.le_of_ble_eq_true rfl) rfl rfl ?_
                refine z_goto (tgt := 7) dX7_isNext_111 (by decide) ?_
                refine ih (by omega) (fun p hp hpa => ?_) _ _ _
                have hpi : p i ≤ c i := Nat.le_of_not_lt fun q => by
                  obtain ⟨k, k1, k2⟩ := hu (p i) q (hp.1 i (by omega))
                  have := hp.2 k i (by omega) (by omega) (by rw [hpa k k1, k2])
                  omega
                rcases Nat.lt_or_ge (p i) (c i) with q | q
                · exact Or.inl ⟨i, by omega, hpa, q⟩
                · refine hI p hp (fun j hj => ?_)
                  by_cases e : j = i
                  · subst e; omega
                  · exact hpa j (by omega)
            · exact absurd (by rw [hn]; exact nI_le (Nat.le_refl _) (by omega)) g1
          | succ f ihf =>
            intro v hv hcv hu
            refine z_iload_n dX7_isNext_20 rfl rfl ?_
            refine z_aload_n dX7_isNext_21 rfl rfl ?_
            refine z_gi7 (j := 14) dX7_isNext_22 (by decide) fl_X7_144 rfl rfl rfl ?_
            refine z_icmp_ge (tgt := 43) dX7_isNext_25 (by decide) rfl (fun g1 => ?_) (fun g1 => ?_)
            · exact absurd g1 (by rw [hn]; exact nI_ge (by omega) (by omega))
            · refine z_aload_n dX7_isNext_28 rfl rfl ?_
              refine z_iload_n dX7_isNext_29 rfl rfl ?_
              refine z_iload_n dX7_isNext_30 rfl rfl ?_
              refine z_cv2 (ci := 7) (nf := 32) (y := mX7_isUsed) dX7_isNext_31 ml_X7_186 iv_X7_isUsed (Nat.le_of_ble_eq_true rfl) rfl (by decide) rfl (Nat.le_of_ble_eq_true rfl) (Nat.le_of_ble_eq_true rfl) (Nat.le_of_ble_eq_true rfl) (c_X7_isUsed hst M c i v (by omega) (by omega) (fun k hk => ⟨hc k (by omega), by have := hP.1 k (by omega); omega⟩)) rfl ?_
              cases hus : usB c v i with
              | true =>
                refine z_if_eq (tgt := 43) dX7_isNext_34 (by decide) rfl (fun g2 => ?_) (fun g2 => ?_)
                · exact absurd g2 (by decide)
                · first | refine z_iu2 dX7_isNext_37 (Nat.le_of_ble_eq_true rfl) rfl ?_ | refine z_inc2 dX7_isNext_37 (Nat.le_of_ble_eq_true rfl) rfl rfl ?_
                  refine z_goto (tgt := 20) dX7_isNext_40 (by decide) ?_
                  refine ihf (v + 1) (by omega) (by omega) (fun u h1 h2 => ?_)
                  rcases Nat.lt_or_ge u v with q | q
                  · exact hu u h1 q
                  · have : u = v := by omega
                    subst this; exact usB_iff.mp hus
              | false =>
                have hfree := usB_no hus
                have vn : v < n := by omega
                refine z_if_eq (tgt := 43) dX7_isNext_34 (by decide) rfl (fun g2 => ?_) (fun g2 => ?_)
                · refine z_iload_n dX7_isNext_43 rfl rfl ?_
                  refine z_aload_n dX7_isNext_44 rfl rfl ?_
                  refine z_gi7 (j := 14) dX7_isNext_45 (by decide) fl_X7_144 rfl rfl rfl ?_
                  refine z_icmp_ne (tgt := 54) dX7_isNext_48 (by decide) rfl (fun g3 => ?_) (fun g3 => ?_)
                  · refine z_aload_n dX7_isNext_54 rfl rfl ?_
                    refine z_gr7 (j := 13) dX7_isNext_55 (by decide) fl_X7_36 rfl rfl rfl ?_
                    refine z_iload_n dX7_isNext_58 rfl rfl ?_
                    refine z_iload_n dX7_isNext_59 rfl rfl ?_
                    refine z_iast dX7_isNext_60 (by first | rfl | exact knd_h (by omega) | exact knd_s (by omega)) rfl (by omega) (by decide) rfl ?_
                    refine z_iload_n dX7_isNext_61 rfl rfl ?_
                    refine z_iconst (v := 1) dX7_isNext_62 (by decide) rfl ?_
                    refine z_iadd dX7_isNext_63 rfl ?_
                    refine z_tp (b := (nI (i + 1))) (nI_1 _) ?_
                    refine z_ist3 dX7_isNext_64 (Nat.le_of_ble_eq_true rfl) rfl ?_
                    -- the places behind
                    have fl : ∀ (q j : Nat), j + q = n → i < j → ∀ (N : Mem) (gg : Nat → Nat) (u4 : Option Value), Eqx (fun a _ => a = 107) M N → (∀ k, k < j → N 107 k = nI (gg k)) → (∀ k, k < i → gg k = c k) → gg i = v → (∀ k, k < j → gg k < n) → (∀ a b, a < j → b < j → gg a = gg b → a = b) → (∀ k, i < k → k < j → ∀ u, u < gg k → ∃ a, a < k ∧ gg a = u) → Zz (zx l E mX7_isNext 1 (NxQ n c M)) 0 0 65 [some (.ref 99), some (.int (nI i)), some (.int (nI v)), some (.int (nI j)), u4] [] N := by
                      intro q
                      induction q with
                      | zero =>
                        intro j hj hij N gg u4 hE f1 f2 f3 f4 f5 f6
                        have e : j = n := by omega
                        subst e
                        have hg : Pm j gg := ⟨f4, f5⟩
                        have hcg : ltP j c gg := ⟨i, by omega, fun k hk => (f2 k hk).symm, by omega⟩
                        have hn2 : N 99 14 = nI j := by rw [hE 99 14 (by omega)]; exact hn
                        have key : ∀ p, Pm j p → (ltP j p gg ↔ (ltP j p c ∨ eqP j p c)) := fun p hp => by
                          refine ⟨fun ⟨k, k1, k2, k3⟩ => ?_, fun h => h.elim (fun z => ltP_tr z hcg) (fun z => ltP_cgL z hcg)⟩
                          rcases Nat.lt_trichotomy k i with z | z | z
                          · exact Or.inl ⟨k, k1, fun a ha => by rw [k2 a ha, f2 a (by omega)], by rw [← f2 k z]; exact k3⟩
                          · subst z
                            rcases Nat.lt_trichotomy (p k) (c k) with y | y | y
                            · exact Or.inl ⟨k, k1, fun a ha => by rw [k2 a ha, f2 a ha], y⟩
                            · refine hI p hp (fun a ha => ?_)
                              by_cases e : a = k
                              · subst e; exact y
                              · rw [k2 a (by omega), f2 a (by omega)]
                            · obtain ⟨a, a1, a2⟩ := hu (p k) y (by omega)
                              have := hp.2 a k (by omega) k1 (by rw [k2 a a1, f2 a a1, a2])
                              omega
                          · obtain ⟨a, a1, a2⟩ := f6 k z k1 (p k) k3
                            have := hp.2 a k (by omega) k1 (by rw [k2 a a1, a2])
                            omega
                        refine z_iload_n dX7_isNext_65 rfl rfl ?_
                        refine z_aload_n dX7_isNext_66 rfl rfl ?_
                        refine z_gi7 (j := 14) dX7_isNext_67 (by decide) fl_X7_144 rfl rfl rfl ?_
                        refine z_icmp_ge (tgt := 106) dX7_isNext_70 (by decide) rfl (fun g4 => ?_) (fun g4 => ?_)
                        · refine z_iconst (v := 1) dX7_isNext_106 (by decide) rfl ?_
                          exact z_zreturn dX7_isNext_107 rfl rfl ⟨hE, Or.inl ⟨rfl, gg, hg, f1, hcg, key⟩⟩ (Nat.le_of_ble_eq_true rfl) (Nat.le_of_ble_eq_true rfl)
                        · exact absurd (by rw [hn2]; exact nI_le (Nat.le_refl _) (by omega)) g4
                      | succ q ihq =>
                        intro j hj hij N gg u4 hE f1 f2 f3 f4 f5 f6
                        have hn2 : N 99 14 = nI n := by rw [hE 99 14 (by omega)]; exact hn
                        refine z_iload_n dX7_isNext_65 rfl rfl ?_
                        refine z_aload_n dX7_isNext_66 rfl rfl ?_
                        refine z_gi7 (j := 14) dX7_isNext_67 (by decide) fl_X7_144 rfl rfl rfl ?_
                        refine z_icmp_ge (tgt := 106) dX7_isNext_70 (by decide) rfl (fun g4 => ?_) (fun g4 => ?_)
                        · exact absurd g4 (by rw [hn2]; exact nI_ge (by omega) (by omega))
                        · refine z_iconst (v := 0) dX7_isNext_73 (by decide) rfl ?_
                          refine z_ist4 dX7_isNext_74 (Nat.le_of_ble_eq_true rfl) rfl ?_
                          have sk : ∀ (f w : Nat), w + f = n → (∀ u, u < w → ∃ a, a < j ∧ gg a = u) → Zz (zx l E mX7_isNext 1 (NxQ n c M)) 0 0 76 [some (.ref 99), some (.int (nI i)), some (.int (nI v)), some (.int (nI j)), some (.int (nI w))] [] N := by
                            intro f
                            induction f with
                            | zero =>
                              intro w hw hu2
                              have := pigeon j n gg (fun u hu3 => hu2 u (by omega))
                              omega
                            | succ f ihf2 =>
                              intro w hw hu2
                              refine z_aload_n dX7_isNext_76 rfl rfl ?_
                              refine z_iload_n dX7_isNext_77 rfl rfl ?_
                              refine z_iload dX7_isNext_78 rfl rfl ?_
                              refine z_cv2 (ci := 7) (nf := 32) (y := mX7_isUsed) dX7_isNext_80 ml_X7_186 iv_X7_isUsed (Nat.le_of_ble_eq_true rfl) rfl (by decide) rfl (Nat.le_of_ble_eq_true rfl) (Nat.le_of_ble_eq_true rfl) (Nat.le_of_ble_eq_true rfl) (c_X7_isUsed hst N gg j w (by omega) (by omega) (fun k hk => ⟨f1 k hk, by have := f4 k hk; omega⟩)) rfl ?_
                              cases hus2 : usB gg w j with
                              | true =>
                                refine z_if_eq (tgt := 92) dX7_isNext_83 (by decide) rfl (fun g5 => ?_) (fun g5 => ?_)
                                · exact absurd g5 (by decide)
                                · first | refine z_iu4 dX7_isNext_86 (Nat.le_of_ble_eq_true rfl) rfl ?_ | refine z_inc4 dX7_isNext_86 (Nat.le_of_ble_eq_true rfl) rfl rfl ?_
                                  refine z_goto (tgt := 76) dX7_isNext_89 (by decide) ?_
                                  refine ihf2 (w + 1) (by omega) (fun u h1 => ?_)
                                  rcases Nat.lt_or_ge u w with z | z
                                  · exact hu2 u z
                                  · have : u = w := by omega
                                    subst this; exact usB_iff.mp hus2
                              | false =>
                                have hfr := usB_no hus2
                                refine z_if_eq (tgt := 92) dX7_isNext_83 (by decide) rfl (fun g5 => ?_) (fun g5 => ?_)
                                · refine z_aload_n dX7_isNext_92 rfl rfl ?_
                                  refine z_gr7 (j := 13) dX7_isNext_93 (by decide) fl_X7_36 rfl rfl rfl ?_
                                  refine z_iload_n dX7_isNext_96 rfl rfl ?_
                                  refine z_iload dX7_isNext_97 rfl rfl ?_
                                  refine z_iast dX7_isNext_99 (by first | rfl | exact knd_h (by omega) | exact knd_s (by omega)) rfl (by omega) (by decide) rfl ?_
                                  first | refine z_iu3 dX7_isNext_100 (Nat.le_of_ble_eq_true rfl) rfl ?_ | refine z_inc3 dX7_isNext_100 (Nat.le_of_ble_eq_true rfl) rfl rfl ?_
                                  refine z_goto (tgt := 65) dX7_isNext_103 (by decide) ?_
                                  refine ihq (j + 1) (by omega) (by omega) (mu N 107 j (nI w)) (upN gg j w) _ (hE.mu (by omega)) (fun k hk => ?_) (fun k hk => ?_) ?_ (fun k hk => ?_) (fun a b ha hb he => ?_) (fun k h1 h2 u hu3 => ?_)
                                  · by_cases e : k = j
                                    · subst e; rw [upN_s, mu_k]; exact if_pos rfl
                                    · rw [upN_o e, mu_k]; exact (if_neg e).trans (f1 k (by omega))
                                  · rw [upN_o (by omega)]; exact f2 k hk
                                  · rw [upN_o (by omega)]; exact f3
                                  · by_cases e : k = j
                                    · subst e; rw [upN_s]; omega
                                    · rw [upN_o e]; exact f4 k (by omega)
                                  · by_cases e1 : a = j <;> by_cases e2 : b = j
                                    · omega
                                    · subst e1; rw [upN_s, upN_o e2] at he; exact absurd he.symm (hfr b (by omega))
                                    · subst e2; rw [upN_s, upN_o e1] at he; exact absurd he (hfr a (by omega))
                                    · rw [upN_o e1, upN_o e2] at he; exact f5 a b (by omega) (by omega) he
                                  · by_cases e : k = j
                                    · subst e
                                      rw [upN_s] at hu3
                                      obtain ⟨a, a1, a2⟩ := hu2 u hu3
                                      exact ⟨a, a1, by rw [upN_o (by omega)]; exact a2⟩
                                    · rw [upN_o e] at hu3
                                      obtain ⟨a, a1, a2⟩ := f6 k h1 (by omega) u hu3
                                      exact ⟨a, a1, by rw [upN_o (by omega)]; exact a2⟩
                                · exact absurd rfl g5
                          exact sk n 0 (by omega) (fun u hu3 => absurd hu3 (Nat.not_lt_zero u))
                    refine fl (n - (i + 1)) (i + 1) (by omega) (by omega) (mu M 107 i (nI v)) (upN c i v) _ (Eqx.rf.mu rfl) (fun k hk => ?_) (fun k hk => upN_o (by omega)) upN_s (fun k hk => ?_) (fun a b ha hb he => ?_) (fun k h1 h2 => by omega)
                    · by_cases e : k = i
                      · subst e; rw [upN_s, mu_k]; exact if_pos rfl
                      · rw [upN_o e, mu_k]; exact (if_neg e).trans (hc k (by omega))
                    · by_cases e : k = i
                      · subst e; rw [upN_s]; exact vn
                      · rw [upN_o e]; exact hP.1 k (by omega)
                    · by_cases e1 : a = i <;> by_cases e2 : b = i
                      · omega
                      · subst e1; rw [upN_s, upN_o e2] at he; exact absurd he.symm (hfree b (by omega))
                      · subst e2; rw [upN_s, upN_o e1] at he; exact absurd he (hfree a (by omega))
                      · rw [upN_o e1, upN_o e2] at he; exact hP.2 a b (by omega) (by omega) he
                  · rw [hn] at g3
                    have := (nI_eq (by omega) (by omega)).mp g3
                    omega
                · exact absurd rfl g2
        exact up (n - (c i + 1)) (c i + 1) (by omega) (by omega) (fun u h1 h2 => by omega)
  exact loop n (Nat.le_refl n) (fun p hp h => Or.inr h) _ _ _
