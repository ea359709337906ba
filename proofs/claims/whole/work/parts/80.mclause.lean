/-! a clause, the reference's side -/
theorem hi_lit2 {h1 : Nat} {x : Int32} (hh : h1 ≤ 100) (e : x = nI h1) : ∀ V, V ≤ 200000 → (nI V ≤ x ↔ V < h1 + 1) := fun V hV => by
  subst e
  rw [nI_leI (by omega) (by omega)]; omega
theorem hi_wn2 {wn : Nat} (hw : wn ≤ 16) : ∀ V, V ≤ 200000 → (nI V ≤ nI wn - 1 ↔ V < wn) := fun V hV => by
  rcases Nat.eq_zero_or_pos wn with e | e
  · subst e
    constructor
    · intro h
      rw [Int32.le_iff_toInt_le, nI_toInt (by omega)] at h
      have : (nI 0 - 1).toInt = -1 := rfl
      omega
    · intro h; omega
  · rw [show nI wn - 1 = nI (wn - 1) from pk_sub (b := 1) (by omega), nI_leI (by omega) (by omega)]; omega
def DM (wn : Nat) (rd : Nat → Bool) (D : Dr) (N : Mem) : Prop := (rd 0 = true → N 101 wn = nI D.1 ∧ N 102 wn = nI D.2.1) ∧ N 103 wn = nI D.2.2.1 ∧ N 104 wn = nI D.2.2.2.1 ∧ N 105 wn = enI D.2.2.2.2.1 ∧ ∀ i, i < 32 → bt (N 106 wn) i = D.2.2.2.2.2 i
theorem DM.keep {wn : Nat} {rd : Nat → Bool} {D : Dr} {M N : Mem} (h : DM wn rd D M) (hE : ∀ a, 101 ≤ a → a ≤ 106 → N a wn = M a wn) : DM wn rd D N := by
  unfold DM
  rw [hE 101 (by decide) (by decide), hE 102 (by decide) (by decide), hE 103 (by decide) (by decide), hE 104 (by decide) (by decide), hE 105 (by decide) (by decide), hE 106 (by decide) (by decide)]
  exact h
theorem DM.rd {wn : Nat} {rd rd2 : Nat → Bool} {D : Dr} {M : Mem} (h : DM wn rd D M) (hr : rd2 0 = true → rd 0 = true) : DM wn rd2 D M := ⟨fun q => h.1 (hr q), h.2⟩
def RmC (n wn : Nat) (o : (Nat × Nat) ⊕ Cl) (M : Mem) : Mem → Prop := fun N => (∃ k p, o = .inl (k, p) ∧ Eqx (Sw5 wn) M N ∧ FL n k p N) ∨ (∃ e rd2 D2, o = .inr (e, rd2, D2) ∧ Eqx (Sw5 wn) M N ∧ N 99 4 = nI e ∧ N 99 5 = 0 ∧ N 99 6 = M 99 6 ∧ (∀ i, i < 5 → N 108 i = bI (rd2 i)) ∧ DM wn rd2 D2 N)
theorem wh_thg {b : Nat → Nat} {n s : Nat} : (whS b n s 3 5 = none ∧ thgW b n s = none) ∨ ∃ j, 5 ≤ j ∧ j ≤ 7 ∧ whS b n s 3 5 = some j ∧ thgW b n s = some (j - 4) ∧ WA b n s j := by
  unfold thgW
  by_cases c5 : WA b n s 5
  · exact Or.inr ⟨5, by decide, by decide, by rw [whS, if_pos c5], by rw [if_pos c5], c5⟩
  · by_cases c6 : WA b n s 6
    · exact Or.inr ⟨6, by decide, by decide, by rw [whS, if_neg c5, whS, if_pos c6], by rw [if_neg c5, if_pos c6], c6⟩
    · by_cases c7 : WA b n s 7
      · exact Or.inr ⟨7, by decide, by decide, by rw [whS, if_neg c5, whS, if_neg c6, whS, if_pos c7], by rw [if_neg c5, if_neg c6, if_pos c7], c7⟩
      · exact Or.inl ⟨by rw [whS, if_neg c5, whS, if_neg c6, whS, if_neg c7]; rfl, by rw [if_neg c5, if_neg c6, if_neg c7]⟩
theorem wh_cls {b : Nat → Nat} {n s : Nat} : whS b n s 5 0 = clsW b n s := rfl
set_option maxHeartbeats 16000000 in
theorem c_X7_clause {l : Launch} {E : EnT} (hst : l.stackTraces = false) (hV : hVw E) (M : Mem) (b : Nat → Nat) (n a wn : Nat) (rd : Nat → Bool) (D : Dr) (hT : TM b n M) (ha : M 99 4 = nI a) (han : a ≤ n) (hbl : run (isBl b) n a = a) (hf : M 99 5 = 0) (hw : M 99 14 = nI wn) (hw16 : wn < 16) (hh : ∀ i, i < 5 → M 108 i = bI (rd i)) (hD : DM wn rd D M) : Mm l E mX7_clause 6 0 0 [.ref 99] M (RP none (RmC n wn (clS b n wn a rd D) M)) := by
  have h200 := hT.2.1
  refine Mm_go hst (by decide) rfl (Nat.le_of_ble_eq_true rfl) [some (.ref 99), none, none, none] rfl ?_
  refine z_aload_n dX7_clause_0 rfl rfl ?_
  refine z_iconst (v := 0) dX7_clause_1 (by decide) rfl ?_
  refine z_tp (b := (nI 0)) rfl ?_
  refine z_iconst (v := 5) dX7_clause_2 (by decide) rfl ?_
  refine z_tp (b := (nI 5)) rfl ?_
  refine z_cv2 (ci := 7) (nf := 32) (y := mX7_wordHere) dX7_clause_3 ml_X7_140 iv_X7_wordHere (Nat.le_of_ble_eq_true rfl) rfl (by decide) rfl (Nat.le_of_ble_eq_true rfl) (Nat.le_of_ble_eq_true rfl) (Nat.le_of_ble_eq_true rfl) (c_X7_wordHere hst hV M b n a 0 5 (by decide) hT ha han (by decide)) rfl ?_
  rw [hbl, mu_self ha, show whS b n a (5 - 0) 0 = clsW b n a from wh_cls]
  generalize hQ : RP none (RmC n wn (clS b n wn a rd D) M) = Q
  have wrg : ∀ u, clS b n wn a rd D = .inl (1, a) → Zz (zx l E mX7_clause 6 Q) 0 0 20 [some (.ref 99), u, none, none] [] M := fun u e => by
    refine z_aload_n dX7_clause_20 rfl rfl ?_
    refine z_iconst (v := 1) dX7_clause_21 (by decide) rfl ?_
    refine z_aload_n dX7_clause_22 rfl rfl ?_
    refine z_gi7 (j := 4) dX7_clause_23 (by decide) fl_X7_88 rfl rfl rfl ?_
    refine z_tp (b := (nI a)) ha ?_
    refine z_cn2 (ci := 7) (nf := 32) (y := mX7_wrong) dX7_clause_26 ml_X7_136 iv_X7_wrong (Nat.le_of_ble_eq_true rfl) rfl (by decide) rfl (Nat.le_of_ble_eq_true rfl) (Nat.le_of_ble_eq_true rfl) (Nat.le_of_ble_eq_true rfl) (c_X7_wrong0 hst M 1 (nI a) hf) rfl ?_
    rw [← hQ]
    exact z_return dX7_clause_29 rfl ⟨rfl, Or.inl ⟨1, a, e, (Eqx.rf.mu (by unfold Sw5; omega)).mu (by unfold Sw5; omega), rfl, rfl, a, ha, han⟩⟩ (Nat.le_of_ble_eq_true rfl) (Nat.le_of_ble_eq_true rfl)
  cases hc : clsW b n a with
  | none =>
    refine z_ist1 dX7_clause_6 (Nat.le_of_ble_eq_true rfl) rfl ?_
    refine z_iload_n dX7_clause_7 rfl rfl ?_
    refine z_if_lt (tgt := 20) dX7_clause_8 (by decide) rfl (fun g => ?_) (fun g => ?_)
    · exact wrg _ (by unfold clS; rw [hc])
    · exact absurd (by decide) g
  | some c =>
    obtain ⟨c4, cr, cn, cl⟩ := cls_ok han hc
    have hc5 := wl8_5 c (by omega)
    refine z_ist1 dX7_clause_6 (Nat.le_of_ble_eq_true rfl) rfl ?_
    refine z_iload_n dX7_clause_7 rfl rfl ?_
    refine z_tp (b := nI c) rfl ?_
    refine z_ls (ls2 := [some (.ref 99), some (.int (nI c)), none, none]) rfl ?_
    refine z_if_lt (tgt := 20) dX7_clause_8 (by decide) rfl (fun g => ?_) (fun g => ?_)
    · exact absurd g (nI_pos (by omega))
    · refine z_aload_n dX7_clause_11 rfl rfl ?_
      refine z_gr7 (j := 17) dX7_clause_12 (by decide) fl_X7_45 rfl rfl rfl ?_
      refine z_iload_n dX7_clause_15 rfl rfl ?_
      refine z_zald dX7_clause_16 rfl rfl (by omega) (by decide) rfl ?_
      refine z_tp (b := (bI (rd c))) (hh c (by omega)) ?_
      cases hr : rd c with
      | true =>
        refine z_if_eq (tgt := 30) dX7_clause_17 (by decide) rfl (fun g1 => ?_) (fun g1 => ?_)
        · exact absurd g1 (by decide)
        · exact wrg _ (by unfold clS; rw [hc]; simp only; rw [if_pos hr])
      | false =>
        have ecl : clS b n wn a rd D = match restS b n wn c (a + wl8 c) D with | .inl f => .inl f | .inr (e, D2) => match sgnS b n e 59 with | .inl f => .inl f | .inr e2 => .inr (e2, (fun i => rd i || decide (i = c)), D2) := by
          unfold clS; rw [hc]; simp only; rw [if_neg (by rw [hr]; decide)]; rfl
        refine z_if_eq (tgt := 30) dX7_clause_17 (by decide) rfl (fun g1 => ?_) (fun g1 => ?_)
        · refine z_aload_n dX7_clause_30 rfl rfl ?_
          refine z_gr7 (j := 17) dX7_clause_31 (by decide) fl_X7_45 rfl rfl rfl ?_
          refine z_iload_n dX7_clause_34 rfl rfl ?_
          refine z_iconst (v := 1) dX7_clause_35 (by decide) rfl ?_
          refine z_zast dX7_clause_36 rfl rfl (by omega) (by decide) rfl ?_
          refine z_aload_n dX7_clause_37 rfl rfl ?_
          refine z_dup dX7_clause_38 rfl rfl ?_
          refine z_gi7 (j := 4) dX7_clause_39 (by decide) fl_X7_88 rfl rfl rfl ?_
          refine z_tp (b := nI a) ha ?_
          refine z_iload_n dX7_clause_42 rfl rfl ?_
          refine z_sv1 (y := mX7_wordOf) dX7_clause_43 ml_X7_124 iv_X7_wordOf (Nat.le_of_ble_eq_true rfl) (Nat.le_of_ble_eq_true rfl) (Nat.le_of_ble_eq_true rfl) (Nat.le_of_ble_eq_true rfl) (c_X7_wordOf hst _ c (by omega)) rfl ?_
          refine z_Sv0 (y := mJ0_length_8abf5) dX7_clause_46 ml_X7_101 iv_J0_length_8abf5 (Nat.le_of_ble_eq_true rfl) (Nat.le_of_ble_eq_true rfl) (Nat.le_of_ble_eq_true rfl) (Nat.le_of_ble_eq_true rfl) (c_J0_length hst hV _ c (by omega)) rfl ?_
          refine z_iadd dX7_clause_49 rfl ?_
          refine z_tp (b := (nI (a + wl8 c))) (nI_add _ _) ?_
          refine z_pi7 (j := 4) dX7_clause_50 (by decide) fl_X7_88 rfl rfl rfl rfl rfl ?_
          have e9 : mu (mu M 108 c (vp_nar .boolean 1)) 99 4 (nI (a + wl8 c)) = mu (mu M 108 c 1) 99 4 (nI (a + wl8 c)) := rfl
          rw [e9]
          have hE1 : Eqx (Sw5 wn) M (mu (mu M 108 c 1) 99 4 (nI (a + wl8 c))) := (Eqx.rf.mu (by unfold Sw5; omega)).mu (by unfold Sw5; omega)
          have f4 : mu (mu M 108 c 1) 99 4 (nI (a + wl8 c)) 99 4 = nI (a + wl8 c) := rfl
          have f5 : mu (mu M 108 c 1) 99 4 (nI (a + wl8 c)) 99 5 = 0 := hf
          have f6 : mu (mu M 108 c 1) 99 4 (nI (a + wl8 c)) 99 6 = M 99 6 := rfl
          have f14 : mu (mu M 108 c 1) 99 4 (nI (a + wl8 c)) 99 14 = nI wn := hw
          have fh : ∀ i, i < 5 → mu (mu M 108 c 1) 99 4 (nI (a + wl8 c)) 108 i = bI ((fun i => rd i || decide (i = c)) i) := fun i hi => by
            show mu M 108 c 1 108 i = bI (rd i || decide (i = c))
            rw [mu_at, if_pos rfl]
            by_cases e : i = c
            · rw [if_pos e, decide_eq_true e, Bool.or_true]; rfl
            · rw [if_neg e, decide_eq_false e, Bool.or_false]; exact hh i hi
          have fD : DM wn rd D (mu (mu M 108 c 1) 99 4 (nI (a + wl8 c))) := hD.keep (fun x h1 h2 => by rw [mu_o (by omega), mu_o (by omega)])
          generalize mu (mu M 108 c 1) 99 4 (nI (a + wl8 c)) = N1 at hE1 f4 f5 f6 f14 fh fD ⊢
          have hT1 := hT.keep hE1
          generalize ha1 : a + wl8 c = a1 at f4 ecl cn ⊢
          generalize hrd2 : (fun i => rd i || decide (i = c)) = rd2 at fh ecl ⊢
          have hrr : rd2 0 = true → c ≠ 0 → rd 0 = true := fun q q2 => by
            rw [← hrd2] at q
            simp only at q
            rw [decide_eq_false (show ¬ 0 = c from fun z => q2 z.symm), Bool.or_false] at q
            exact q
          -- what a fault comes to
          have fail286 : ∀ (N : Mem) (k p : Nat) (u2 u3 : Option Value), 0 < k → k ≤ 3 → clS b n wn a rd D = .inl (k, p) → Eqx (Sw5 wn) M N → FL n k p N → Zz (zx l E mX7_clause 6 Q) 0 0 286 [some (.ref 99), some (.int (nI c)), u2, u3] [] N := by
            intro N k p u2 u3 hk hk3 e hE hF
            refine z_aload_n dX7_clause_286 rfl rfl ?_
            refine z_bipush (v := 59) dX7_clause_287 (by decide) rfl ?_
            refine z_cn1 (ci := 7) (nf := 32) (y := mX7_sign) dX7_clause_289 ml_X7_150 iv_X7_sign (Nat.le_of_ble_eq_true rfl) rfl (by decide) rfl (Nat.le_of_ble_eq_true rfl) (Nat.le_of_ble_eq_true rfl) (Nat.le_of_ble_eq_true rfl) (c_X7_sign1 hst N 59 k hF.1 hk hk3) rfl ?_
            rw [← hQ]
            exact z_return dX7_clause_292 rfl ⟨rfl, Or.inl ⟨k, p, e, hE, hF⟩⟩ (Nat.le_of_ble_eq_true rfl) (Nat.le_of_ble_eq_true rfl)
          have ok286 : ∀ (N : Mem) (e : Nat) (D2 : Dr) (u2 u3 : Option Value), restS b n wn c a1 D = .inr (e, D2) → e ≤ n → Eqx (Sw5 wn) M N → N 99 4 = nI e → N 99 5 = 0 → N 99 6 = M 99 6 → (∀ i, i < 5 → N 108 i = bI (rd2 i)) → DM wn rd2 D2 N → Zz (zx l E mX7_clause 6 Q) 0 0 286 [some (.ref 99), some (.int (nI c)), u2, u3] [] N := by
            intro N e D2 u2 u3 he hen hE h4 h5 h6 h8 hD2
            refine z_aload_n dX7_clause_286 rfl rfl ?_
            refine z_bipush (v := 59) dX7_clause_287 (by decide) rfl ?_
            refine z_tp (b := (nI 59)) rfl ?_
            refine z_cp1 (ci := 7) (nf := 32) (y := mX7_sign) dX7_clause_289 ml_X7_150 iv_X7_sign (Nat.le_of_ble_eq_true rfl) rfl (by decide) rfl (Nat.le_of_ble_eq_true rfl) (Nat.le_of_ble_eq_true rfl) (Nat.le_of_ble_eq_true rfl) (c_X7_sign0 hst N b n e 59 (hT.keep hE) h4 hen (by decide) h5) rfl ?_
            intro N2 h
            rw [← hQ]
            rcases h with ⟨k, p, e', hE2, hF⟩ | ⟨e2, e', hN2⟩
            · exact z_return dX7_clause_292 rfl ⟨rfl, Or.inl ⟨k, p, by rw [ecl, he]; simp only; rw [e'], hE.tr (hE2.mono (fun _ _ q => S456_w q)), hF⟩⟩ (Nat.le_of_ble_eq_true rfl) (Nat.le_of_ble_eq_true rfl)
            · subst hN2
              exact z_return dX7_clause_292 rfl ⟨rfl, Or.inr ⟨e2, rd2, D2, by rw [ecl, he]; simp only; rw [e'], hE.mu (by unfold Sw5; omega), rfl, h5, h6, h8, hD2.keep (fun x h1 h2 => by rw [mu_o (by omega)])⟩⟩ (Nat.le_of_ble_eq_true rfl) (Nat.le_of_ble_eq_true rfl)
          have inl_of : ∀ {k p : Nat}, restS b n wn c a1 D = .inl (k, p) → clS b n wn a rd D = .inl (k, p) := fun q => by rw [ecl, q]
          rcases (by omega : c = 0 ∨ c = 1 ∨ c = 2 ∨ c = 3 ∨ c = 4) with ec | ec | ec | ec | ec <;> subst ec
          · -- hours
            have er : restS b n wn 0 a1 D = hourS b n a1 D := rfl
            refine z_iload_n dX7_clause_53 rfl rfl ?_
            refine z_if_ne (tgt := 106) dX7_clause_54 (by decide) rfl (fun g2 => ?_) (fun g2 => ?_)
            · exact absurd rfl g2
            · have f79 : ∀ (N : Mem) (k p : Nat), 0 < k → k ≤ 3 → clS b n wn a rd D = .inl (k, p) → Eqx (Sw5 wn) M N → FL n k p N → Zz (zx l E mX7_clause 6 Q) 0 0 79 [some (.ref 99), some (.int (nI 0)), none, none] [] N := by
                intro N k p hk hk3 e hE hF
                have n14 : N 99 14 = nI wn := by rw [hE 99 14 (by unfold Sw5; omega)]; exact hw
                refine z_aload_n dX7_clause_79 rfl rfl ?_
                refine z_gr7 (j := 8) dX7_clause_80 (by decide) fl_X7_21 rfl rfl rfl ?_
                refine z_aload_n dX7_clause_83 rfl rfl ?_
                refine z_gi7 (j := 14) dX7_clause_84 (by decide) fl_X7_144 rfl rfl rfl ?_
                refine z_tp (b := (nI wn)) n14 ?_
                refine z_aload_n dX7_clause_87 rfl rfl ?_
                refine z_aload_n dX7_clause_88 rfl rfl ?_
                refine z_gr7 (j := 7) dX7_clause_89 (by decide) fl_X7_17 rfl rfl rfl ?_
                refine z_aload_n dX7_clause_92 rfl rfl ?_
                refine z_gi7 (j := 14) dX7_clause_93 (by decide) fl_X7_144 rfl rfl rfl ?_
                refine z_tp (b := (nI wn)) n14 ?_
                refine z_iald dX7_clause_96 (by first | rfl | exact knd_h (by omega) | exact knd_s (by omega)) rfl (by omega) (by decide) rfl ?_
                refine z_bipush (v := 40) dX7_clause_97 (by decide) rfl ?_
                refine z_cv2 (ci := 7) (nf := 32) (y := mX7_number) dX7_clause_99 ml_X7_147 iv_X7_number (Nat.le_of_ble_eq_true rfl) rfl (by decide) rfl (Nat.le_of_ble_eq_true rfl) (Nat.le_of_ble_eq_true rfl) (Nat.le_of_ble_eq_true rfl) (c_X7_number1 hst N _ 40 k hF.1 hk hk3) rfl ?_
                refine z_iast dX7_clause_102 (by first | rfl | exact knd_h (by omega) | exact knd_s (by omega)) rfl (by omega) (by decide) rfl ?_
                refine z_goto (tgt := 286) dX7_clause_103 (by decide) ?_
                exact fail286 _ k p _ _ hk hk3 e (hE.mu (by unfold Sw5; omega)) ⟨hF.1, hF.2.1, hF.2.2⟩
              refine z_aload_n dX7_clause_57 rfl rfl ?_
              refine z_gr7 (j := 7) dX7_clause_58 (by decide) fl_X7_17 rfl rfl rfl ?_
              refine z_aload_n dX7_clause_61 rfl rfl ?_
              refine z_gi7 (j := 14) dX7_clause_62 (by decide) fl_X7_144 rfl rfl rfl ?_
              refine z_tp (b := (nI wn)) f14 ?_
              refine z_aload_n dX7_clause_65 rfl rfl ?_
              refine z_iconst (v := 1) dX7_clause_66 (by decide) rfl ?_
              refine z_tp (b := (nI 1)) rfl ?_
              refine z_bipush (v := 40) dX7_clause_67 (by decide) rfl ?_
              refine z_cg2 (ci := 7) (nf := 32) (y := mX7_number) dX7_clause_69 ml_X7_147 iv_X7_number (Nat.le_of_ble_eq_true rfl) rfl (by decide) rfl (Nat.le_of_ble_eq_true rfl) (Nat.le_of_ble_eq_true rfl) (Nat.le_of_ble_eq_true rfl) (c_X7_number0 hst N1 b n a1 1 41 40 hT1 f4 cn (by decide) (by decide) f5 (hi_lit2 (h1 := 40) (by decide) rfl)) RmN_nx rfl ?_
              intro v N h
              rcases h with ⟨k, p, v, e, r, hE2, hF⟩ | ⟨e1, V, e, r, hN⟩
              · cases r
                have hk := num_k e
                refine z_iast dX7_clause_72 (by first | rfl | exact knd_h (by omega) | exact knd_s (by omega)) rfl (by omega) (by decide) rfl ?_
                have hEn : Eqx (Sw5 wn) M (mu N 101 wn v) := (hE1.tr (hE2.mono (fun _ _ q => S456_w q))).mu (by unfold Sw5; omega)
                refine z_aload_n dX7_clause_73 rfl rfl ?_
                refine z_bipush (v := 45) dX7_clause_74 (by decide) rfl ?_
                refine z_cn1 (ci := 7) (nf := 32) (y := mX7_sign) dX7_clause_76 ml_X7_150 iv_X7_sign (Nat.le_of_ble_eq_true rfl) rfl (by decide) rfl (Nat.le_of_ble_eq_true rfl) (Nat.le_of_ble_eq_true rfl) (Nat.le_of_ble_eq_true rfl) (c_X7_sign1 hst (mu N 101 wn v) 45 k hF.1 (by omega) (by omega)) rfl ?_
                exact f79 _ k p (by omega) (by omega) (inl_of (by rw [er]; unfold hourS; rw [e])) hEn ⟨hF.1, hF.2.1, hF.2.2⟩
              · cases r
                obtain ⟨b1, b2, b3, b4⟩ := num_ok cn e
                subst hN
                refine z_iast dX7_clause_72 (by first | rfl | exact knd_h (by omega) | exact knd_s (by omega)) rfl (by omega) (by decide) rfl ?_
                have hEn : Eqx (Sw5 wn) M (mu (mu N1 99 4 (nI e1)) 101 wn (nI V)) := (hE1.mu (by unfold Sw5; omega)).mu (by unfold Sw5; omega)
                refine z_aload_n dX7_clause_73 rfl rfl ?_
                refine z_bipush (v := 45) dX7_clause_74 (by decide) rfl ?_
                refine z_tp (b := (nI 45)) rfl ?_
                refine z_cp1 (ci := 7) (nf := 32) (y := mX7_sign) dX7_clause_76 ml_X7_150 iv_X7_sign (Nat.le_of_ble_eq_true rfl) rfl (by decide) rfl (Nat.le_of_ble_eq_true rfl) (Nat.le_of_ble_eq_true rfl) (Nat.le_of_ble_eq_true rfl) (c_X7_sign0 hst _ b n e1 45 (hT.keep hEn) rfl b2 (by decide) f5) rfl ?_
                intro N2 h
                rcases h with ⟨k, p, e', hE2, hF⟩ | ⟨e2, e', hN2⟩
                · have hk := sgn_k e'
                  exact f79 N2 k p (by omega) (by omega) (inl_of (by rw [er]; unfold hourS; rw [e]; simp only; rw [e'])) (hEn.tr (hE2.mono (fun _ _ q => S456_w q))) hF
                · obtain ⟨s1, s2⟩ := sgn_ok e'
                  subst hN2
                  have hEn2 : Eqx (Sw5 wn) M (mu (mu (mu N1 99 4 (nI e1)) 101 wn (nI V)) 99 4 (nI e2)) := hEn.mu (by unfold Sw5; omega)
                  have g14 : mu (mu (mu N1 99 4 (nI e1)) 101 wn (nI V)) 99 4 (nI e2) 99 14 = nI wn := f14
                  have g101 : mu (mu (mu N1 99 4 (nI e1)) 101 wn (nI V)) 99 4 (nI e2) 101 wn = nI V := by
                    rw [mu_o (by decide), mu_at, if_pos rfl, if_pos rfl]
                  refine z_aload_n dX7_clause_79 rfl rfl ?_
                  refine z_gr7 (j := 8) dX7_clause_80 (by decide) fl_X7_21 rfl rfl rfl ?_
                  refine z_aload_n dX7_clause_83 rfl rfl ?_
                  refine z_gi7 (j := 14) dX7_clause_84 (by decide) fl_X7_144 rfl rfl rfl ?_
                  refine z_tp (b := (nI wn)) g14 ?_
                  refine z_aload_n dX7_clause_87 rfl rfl ?_
                  refine z_aload_n dX7_clause_88 rfl rfl ?_
                  refine z_gr7 (j := 7) dX7_clause_89 (by decide) fl_X7_17 rfl rfl rfl ?_
                  refine z_aload_n dX7_clause_92 rfl rfl ?_
                  refine z_gi7 (j := 14) dX7_clause_93 (by decide) fl_X7_144 rfl rfl rfl ?_
                  refine z_tp (b := (nI wn)) g14 ?_
                  refine z_iald dX7_clause_96 (by first | rfl | exact knd_h (by omega) | exact knd_s (by omega)) rfl (by omega) (by decide) rfl ?_
                  refine z_tp (b := (nI V)) g101 ?_
                  refine z_bipush (v := 40) dX7_clause_97 (by decide) rfl ?_
                  refine z_cg2 (ci := 7) (nf := 32) (y := mX7_number) dX7_clause_99 ml_X7_147 iv_X7_number (Nat.le_of_ble_eq_true rfl) rfl (by decide) rfl (Nat.le_of_ble_eq_true rfl) (Nat.le_of_ble_eq_true rfl) (Nat.le_of_ble_eq_true rfl) (c_X7_number0 hst _ b n e2 V 41 40 (hT.keep hEn2) rfl s2 (by omega) (by decide) f5 (hi_lit2 (h1 := 40) (by decide) rfl)) RmN_nx rfl ?_
                  intro v N3 h
                  rcases h with ⟨k, p, v, e'', r, hE3, hF⟩ | ⟨e3, V3, e'', r, hN3⟩
                  · cases r
                    have hk := num_k e''
                    refine z_iast dX7_clause_102 (by first | rfl | exact knd_h (by omega) | exact knd_s (by omega)) rfl (by omega) (by decide) rfl ?_
                    refine z_goto (tgt := 286) dX7_clause_103 (by decide) ?_
                    exact fail286 _ k p _ _ (by omega) (by omega) (inl_of (by rw [er]; unfold hourS; rw [e]; simp only; rw [e']; simp only; rw [e''])) ((hEn2.tr (hE3.mono (fun _ _ q => S456_w q))).mu (by unfold Sw5; omega)) ⟨hF.1, hF.2.1, hF.2.2⟩
                  · cases r
                    obtain ⟨d1, d2, d3, d4⟩ := num_ok s2 e''
                    subst hN3
                    refine z_iast dX7_clause_102 (by first | rfl | exact knd_h (by omega) | exact knd_s (by omega)) rfl (by omega) (by decide) rfl ?_
                    refine z_goto (tgt := 286) dX7_clause_103 (by decide) ?_
                    refine ok286 _ e3 (V, V3, D.2.2) _ _ (by rw [er]; unfold hourS; rw [e]; simp only; rw [e']; simp only; rw [e'']) d2 ((hEn2.mu (by unfold Sw5; omega)).mu (by unfold Sw5; omega)) rfl f5 f6 fh ⟨fun _ => ⟨?_, ?_⟩, fD.2.1, fD.2.2.1, fD.2.2.2.1, fD.2.2.2.2⟩
                    · rw [mu_o (by decide), mu_o (by decide)]; exact g101
                    · rw [mu_at, if_pos rfl, if_pos rfl]
          · -- needs
            have er : restS b n wn 1 a1 D = thgS b n a1 D := rfl
            refine z_iload_n dX7_clause_53 rfl rfl ?_
            refine z_if_ne (tgt := 106) dX7_clause_54 (by decide) rfl (fun g2 => ?_) (fun g2 => ?_)
            · refine z_iload_n dX7_clause_106 rfl rfl ?_
              refine z_iconst (v := 1) dX7_clause_107 (by decide) rfl ?_
              refine z_icmp_ne (tgt := 164) dX7_clause_108 (by decide) rfl (fun g3 => ?_) (fun g3 => ?_)
              · exact absurd rfl g3
              · refine z_aload_n dX7_clause_111 rfl rfl ?_
                refine z_iconst (v := 5) dX7_clause_112 (by decide) rfl ?_
                refine z_tp (b := (nI 5)) rfl ?_
                refine z_bipush (v := 8) dX7_clause_113 (by decide) rfl ?_
                refine z_tp (b := (nI 8)) rfl ?_
                refine z_cv2 (ci := 7) (nf := 32) (y := mX7_wordHere) dX7_clause_115 ml_X7_140 iv_X7_wordHere (Nat.le_of_ble_eq_true rfl) rfl (by decide) rfl (Nat.le_of_ble_eq_true rfl) (Nat.le_of_ble_eq_true rfl) (Nat.le_of_ble_eq_true rfl) (c_X7_wordHere hst hV N1 b n a1 5 8 (by decide) hT1 f4 cn (by decide)) rfl ?_
                rw [show 8 - 5 = 3 from rfl]
                have hs2 := run_le (p := isBl b) a1 cn
                have et : thgS b n a1 D = match thgW b n (run (isBl b) n a1) with | none => .inl (1, run (isBl b) n a1) | some t => .inr (run (isLe b) n (run (isBl b) n a1), D.1, D.2.1, t, D.2.2.2) := rfl
                generalize run (isBl b) n a1 = s at hs2 et ⊢
                have hEs : Eqx (Sw5 wn) M (mu N1 99 4 (nI s)) := hE1.mu (by unfold Sw5; omega)
                have s14 : mu N1 99 4 (nI s) 99 14 = nI wn := f14
                have s4 : mu N1 99 4 (nI s) 99 4 = nI s := rfl
                rcases wh_thg (b := b) (n := n) (s := s) with ⟨q1, q2⟩ | ⟨j, j1, j2, q1, q2, q3⟩
                · rw [q1]
                  refine z_ist2 dX7_clause_118 (Nat.le_of_ble_eq_true rfl) rfl ?_
                  refine z_iload_n dX7_clause_119 rfl rfl ?_
                  refine z_if_ge (tgt := 133) dX7_clause_120 (by decide) rfl (fun g4 => ?_) (fun g4 => ?_)
                  · exact absurd g4 (by decide)
                  · refine z_aload_n dX7_clause_123 rfl rfl ?_
                    refine z_iconst (v := 1) dX7_clause_124 (by decide) rfl ?_
                    refine z_aload_n dX7_clause_125 rfl rfl ?_
                    refine z_gi7 (j := 4) dX7_clause_126 (by decide) fl_X7_88 rfl rfl rfl ?_
                    refine z_tp (b := (nI s)) s4 ?_
                    refine z_cn2 (ci := 7) (nf := 32) (y := mX7_wrong) dX7_clause_129 ml_X7_136 iv_X7_wrong (Nat.le_of_ble_eq_true rfl) rfl (by decide) rfl (Nat.le_of_ble_eq_true rfl) (Nat.le_of_ble_eq_true rfl) (Nat.le_of_ble_eq_true rfl) (c_X7_wrong0 hst (mu N1 99 4 (nI s)) 1 (nI s) f5) rfl ?_
                    rw [← hQ]
                    exact z_return dX7_clause_132 rfl ⟨rfl, Or.inl ⟨1, s, inl_of (by rw [er, et, q2]), (hEs.mu (by unfold Sw5; omega)).mu (by unfold Sw5; omega), rfl, rfl, s, rfl, hs2⟩⟩ (Nat.le_of_ble_eq_true rfl) (Nat.le_of_ble_eq_true rfl)
                · rw [q1]
                  have hle := run_le (p := isLe b) s hs2
                  have hj5 := wl8_5 j (by omega)
                  rw [q3.1] at hle
                  refine z_ist2 dX7_clause_118 (Nat.le_of_ble_eq_true rfl) rfl ?_
                  refine z_iload_n dX7_clause_119 rfl rfl ?_
                  refine z_if_ge (tgt := 133) dX7_clause_120 (by decide) rfl (fun g4 => ?_) (fun g4 => ?_)
                  · refine z_aload_n dX7_clause_133 rfl rfl ?_
                    refine z_dup dX7_clause_134 rfl rfl ?_
                    refine z_gi7 (j := 4) dX7_clause_135 (by decide) fl_X7_88 rfl rfl rfl ?_
                    refine z_tp (b := (nI s)) s4 ?_
                    refine z_iload_n dX7_clause_138 rfl rfl ?_
                    refine z_tp (b := nI j) rfl ?_
                    refine z_sv1 (y := mX7_wordOf) dX7_clause_139 ml_X7_124 iv_X7_wordOf (Nat.le_of_ble_eq_true rfl) (Nat.le_of_ble_eq_true rfl) (Nat.le_of_ble_eq_true rfl) (Nat.le_of_ble_eq_true rfl) (c_X7_wordOf hst _ j (by omega)) rfl ?_
                    refine z_Sv0 (y := mJ0_length_8abf5) dX7_clause_142 ml_X7_101 iv_J0_length_8abf5 (Nat.le_of_ble_eq_true rfl) (Nat.le_of_ble_eq_true rfl) (Nat.le_of_ble_eq_true rfl) (Nat.le_of_ble_eq_true rfl) (c_J0_length hst hV _ j (by omega)) rfl ?_
                    refine z_iadd dX7_clause_145 rfl ?_
                    refine z_tp (b := (nI (s + wl8 j))) (nI_add _ _) ?_
                    refine z_pi7 (j := 4) dX7_clause_146 (by decide) fl_X7_88 rfl rfl rfl rfl rfl ?_
                    refine z_aload_n dX7_clause_149 rfl rfl ?_
                    refine z_gr7 (j := 9) dX7_clause_150 (by decide) fl_X7_24 rfl rfl rfl ?_
                    refine z_aload_n dX7_clause_153 rfl rfl ?_
                    refine z_gi7 (j := 14) dX7_clause_154 (by decide) fl_X7_144 rfl rfl rfl ?_
                    refine z_tp (b := (nI wn)) f14 ?_
                    refine z_iload_n dX7_clause_157 rfl rfl ?_
                    refine z_iconst (v := 4) dX7_clause_158 (by decide) rfl ?_
                    refine z_isub dX7_clause_159 rfl ?_
                    refine z_tp (b := (nI (j - 4))) (pk_sub (a := j) (b := 4) (by omega)) ?_
                    refine z_iast dX7_clause_160 (by first | rfl | exact knd_h (by omega) | exact knd_s (by omega)) rfl (by omega) (by decide) rfl ?_
                    refine z_goto (tgt := 286) dX7_clause_161 (by decide) ?_
                    refine ok286 _ (s + wl8 j) (D.1, D.2.1, j - 4, D.2.2.2) _ _ (by rw [er, et, q2, q3.1]) hle ((hEs.mu (by unfold Sw5; omega)).mu (by unfold Sw5; omega)) rfl f5 f6 fh ⟨fun q => fD.1 (hrr q (by decide)), ?_, fD.2.2.1, fD.2.2.2.1, fD.2.2.2.2⟩
                    rw [mu_at, if_pos rfl, if_pos rfl]
                  · exact absurd (nI_le (a := 0) (Nat.zero_le j) (by omega)) g4
            · exact absurd g2 (by decide)
          · -- hands
            have er : restS b n wn 2 a1 D = handS b n a1 D := rfl
            refine z_iload_n dX7_clause_53 rfl rfl ?_
            refine z_if_ne (tgt := 106) dX7_clause_54 (by decide) rfl (fun g2 => ?_) (fun g2 => ?_)
            · refine z_iload_n dX7_clause_106 rfl rfl ?_
              refine z_iconst (v := 1) dX7_clause_107 (by decide) rfl ?_
              refine z_icmp_ne (tgt := 164) dX7_clause_108 (by decide) rfl (fun g3 => ?_) (fun g3 => ?_)
              · refine z_iload_n dX7_clause_164 rfl rfl ?_
                refine z_iconst (v := 2) dX7_clause_165 (by decide) rfl ?_
                refine z_icmp_ne (tgt := 188) dX7_clause_166 (by decide) rfl (fun g4 => ?_) (fun g4 => ?_)
                · exact absurd rfl g4
                · refine z_aload_n dX7_clause_169 rfl rfl ?_
                  refine z_gr7 (j := 10) dX7_clause_170 (by decide) fl_X7_27 rfl rfl rfl ?_
                  refine z_aload_n dX7_clause_173 rfl rfl ?_
                  refine z_gi7 (j := 14) dX7_clause_174 (by decide) fl_X7_144 rfl rfl rfl ?_
                  refine z_tp (b := (nI wn)) f14 ?_
                  refine z_aload_n dX7_clause_177 rfl rfl ?_
                  refine z_iconst (v := 0) dX7_clause_178 (by decide) rfl ?_
                  refine z_tp (b := (nI 0)) rfl ?_
                  refine z_bipush (v := 30) dX7_clause_179 (by decide) rfl ?_
                  refine z_cg2 (ci := 7) (nf := 32) (y := mX7_number) dX7_clause_181 ml_X7_147 iv_X7_number (Nat.le_of_ble_eq_true rfl) rfl (by decide) rfl (Nat.le_of_ble_eq_true rfl) (Nat.le_of_ble_eq_true rfl) (Nat.le_of_ble_eq_true rfl) (c_X7_number0 hst N1 b n a1 0 31 30 hT1 f4 cn (by decide) (by decide) f5 (hi_lit2 (h1 := 30) (by decide) rfl)) RmN_nx rfl ?_
                  intro v N h
                  rcases h with ⟨k, p, v, e, r, hE2, hF⟩ | ⟨e1, V, e, r, hN⟩
                  · cases r
                    have hk := num_k e
                    refine z_iast dX7_clause_184 (by first | rfl | exact knd_h (by omega) | exact knd_s (by omega)) rfl (by omega) (by decide) rfl ?_
                    refine z_goto (tgt := 286) dX7_clause_185 (by decide) ?_
                    exact fail286 _ k p _ _ (by omega) (by omega) (inl_of (by rw [er]; unfold handS; rw [e])) ((hE1.tr (hE2.mono (fun _ _ q => S456_w q))).mu (by unfold Sw5; omega)) ⟨hF.1, hF.2.1, hF.2.2⟩
                  · cases r
                    obtain ⟨b1, b2, b3, b4⟩ := num_ok cn e
                    subst hN
                    refine z_iast dX7_clause_184 (by first | rfl | exact knd_h (by omega) | exact knd_s (by omega)) rfl (by omega) (by decide) rfl ?_
                    refine z_goto (tgt := 286) dX7_clause_185 (by decide) ?_
                    refine ok286 _ e1 (D.1, D.2.1, D.2.2.1, V, D.2.2.2.2) _ _ (by rw [er]; unfold handS; rw [e]) b2 ((hE1.mu (by unfold Sw5; omega)).mu (by unfold Sw5; omega)) rfl f5 f6 fh ⟨fun q => fD.1 (hrr q (by decide)), fD.2.1, ?_, fD.2.2.2.1, fD.2.2.2.2⟩
                    rw [mu_at, if_pos rfl, if_pos rfl]
              · exact absurd g3 (by decide)
            · exact absurd g2 (by decide)
          · -- back
            have er : restS b n wn 3 a1 D = bckS b n a1 D := rfl
            refine z_iload_n dX7_clause_53 rfl rfl ?_
            refine z_if_ne (tgt := 106) dX7_clause_54 (by decide) rfl (fun g2 => ?_) (fun g2 => ?_)
            · refine z_iload_n dX7_clause_106 rfl rfl ?_
              refine z_iconst (v := 1) dX7_clause_107 (by decide) rfl ?_
              refine z_icmp_ne (tgt := 164) dX7_clause_108 (by decide) rfl (fun g3 => ?_) (fun g3 => ?_)
              · refine z_iload_n dX7_clause_164 rfl rfl ?_
                refine z_iconst (v := 2) dX7_clause_165 (by decide) rfl ?_
                refine z_icmp_ne (tgt := 188) dX7_clause_166 (by decide) rfl (fun g4 => ?_) (fun g4 => ?_)
                · refine z_iload_n dX7_clause_188 rfl rfl ?_
                  refine z_iconst (v := 3) dX7_clause_189 (by decide) rfl ?_
                  refine z_icmp_ne (tgt := 212) dX7_clause_190 (by decide) rfl (fun g5 => ?_) (fun g5 => ?_)
                  · exact absurd rfl g5
                  · refine z_aload_n dX7_clause_193 rfl rfl ?_
                    refine z_gr7 (j := 11) dX7_clause_194 (by decide) fl_X7_30 rfl rfl rfl ?_
                    refine z_aload_n dX7_clause_197 rfl rfl ?_
                    refine z_gi7 (j := 14) dX7_clause_198 (by decide) fl_X7_144 rfl rfl rfl ?_
                    refine z_tp (b := (nI wn)) f14 ?_
                    refine z_aload_n dX7_clause_201 rfl rfl ?_
                    refine z_iconst (v := 0) dX7_clause_202 (by decide) rfl ?_
                    refine z_tp (b := (nI 0)) rfl ?_
                    refine z_bipush (v := 40) dX7_clause_203 (by decide) rfl ?_
                    refine z_cg2 (ci := 7) (nf := 32) (y := mX7_number) dX7_clause_205 ml_X7_147 iv_X7_number (Nat.le_of_ble_eq_true rfl) rfl (by decide) rfl (Nat.le_of_ble_eq_true rfl) (Nat.le_of_ble_eq_true rfl) (Nat.le_of_ble_eq_true rfl) (c_X7_number0 hst N1 b n a1 0 41 40 hT1 f4 cn (by decide) (by decide) f5 (hi_lit2 (h1 := 40) (by decide) rfl)) RmN_nx rfl ?_
                    intro v N h
                    rcases h with ⟨k, p, v, e, r, hE2, hF⟩ | ⟨e1, V, e, r, hN⟩
                    · cases r
                      have hk := num_k e
                      refine z_iast dX7_clause_208 (by first | rfl | exact knd_h (by omega) | exact knd_s (by omega)) rfl (by omega) (by decide) rfl ?_
                      refine z_goto (tgt := 286) dX7_clause_209 (by decide) ?_
                      exact fail286 _ k p _ _ (by omega) (by omega) (inl_of (by rw [er]; unfold bckS; rw [e])) ((hE1.tr (hE2.mono (fun _ _ q => S456_w q))).mu (by unfold Sw5; omega)) ⟨hF.1, hF.2.1, hF.2.2⟩
                    · cases r
                      obtain ⟨b1, b2, b3, b4⟩ := num_ok cn e
                      subst hN
                      refine z_iast dX7_clause_208 (by first | rfl | exact knd_h (by omega) | exact knd_s (by omega)) rfl (by omega) (by decide) rfl ?_
                      refine z_goto (tgt := 286) dX7_clause_209 (by decide) ?_
                      refine ok286 _ e1 (D.1, D.2.1, D.2.2.1, D.2.2.2.1, some V, D.2.2.2.2.2) _ _ (by rw [er]; unfold bckS; rw [e]) b2 ((hE1.mu (by unfold Sw5; omega)).mu (by unfold Sw5; omega)) rfl f5 f6 fh ⟨fun q => fD.1 (hrr q (by decide)), fD.2.1, fD.2.2.1, ?_, fD.2.2.2.2⟩
                      rw [mu_at, if_pos rfl, if_pos rfl]; rfl
                · exact absurd g4 (by decide)
              · exact absurd g3 (by decide)
            · exact absurd g2 (by decide)
          · -- after
            have er : restS b n wn 4 a1 D = aftS b n wn (n + 1) a1 D := rfl
            refine z_iload_n dX7_clause_53 rfl rfl ?_
            refine z_if_ne (tgt := 106) dX7_clause_54 (by decide) rfl (fun g2 => ?_) (fun g2 => ?_)
            · refine z_iload_n dX7_clause_106 rfl rfl ?_
              refine z_iconst (v := 1) dX7_clause_107 (by decide) rfl ?_
              refine z_icmp_ne (tgt := 164) dX7_clause_108 (by decide) rfl (fun g3 => ?_) (fun g3 => ?_)
              · refine z_iload_n dX7_clause_164 rfl rfl ?_
                refine z_iconst (v := 2) dX7_clause_165 (by decide) rfl ?_
                refine z_icmp_ne (tgt := 188) dX7_clause_166 (by decide) rfl (fun g4 => ?_) (fun g4 => ?_)
                · refine z_iload_n dX7_clause_188 rfl rfl ?_
                  refine z_iconst (v := 3) dX7_clause_189 (by decide) rfl ?_
                  refine z_icmp_ne (tgt := 212) dX7_clause_190 (by decide) rfl (fun g5 => ?_) (fun g5 => ?_)
                  · refine z_iconst (v := 1) dX7_clause_212 (by decide) rfl ?_
                    refine z_ist2 dX7_clause_213 (Nat.le_of_ble_eq_true rfl) rfl ?_
                    have body : ∀ (f x : Nat) (N : Mem) (D2 : Dr) (u3 : Option Value), n - x < f → x ≤ n → aftS b n wn f x D2 = restS b n wn 4 a1 D → Eqx (Sw5 wn) M N → N 99 4 = nI x → N 99 5 = 0 → N 99 6 = M 99 6 → (∀ i, i < 5 → N 108 i = bI (rd2 i)) → DM wn rd2 D2 N → Zz (zx l E mX7_clause 6 Q) 0 0 214 [some (.ref 99), some (.int (nI 4)), some (.int 1), u3] [] N := by
                      intro f
                      induction f with
                      | zero => intro x N D2 u3 hf; exact absurd hf (Nat.not_lt_zero _)
                      | succ f ih =>
                        intro x N D2 u3 hfx hxn hq hE h4 h5 h6 h8 hD2
                        have n14 : N 99 14 = nI wn := by rw [hE 99 14 (by unfold Sw5; omega)]; exact hw
                        rw [aftS] at hq
                        refine z_iload_n dX7_clause_214 rfl rfl ?_
                        refine z_if_eq (tgt := 286) dX7_clause_215 (by decide) rfl (fun g6 => ?_) (fun g6 => ?_)
                        · exact absurd g6 (by decide)
                        · refine z_aload_n dX7_clause_218 rfl rfl ?_
                          refine z_iconst (v := 0) dX7_clause_219 (by decide) rfl ?_
                          refine z_tp (b := (nI 0)) rfl ?_
                          refine z_aload_n dX7_clause_220 rfl rfl ?_
                          refine z_gi7 (j := 14) dX7_clause_221 (by decide) fl_X7_144 rfl rfl rfl ?_
                          refine z_tp (b := (nI wn)) n14 ?_
                          refine z_iconst (v := 1) dX7_clause_224 (by decide) rfl ?_
                          refine z_isub dX7_clause_225 rfl ?_
                          refine z_cg2 (ci := 7) (nf := 32) (y := mX7_number) dX7_clause_226 ml_X7_147 iv_X7_number (Nat.le_of_ble_eq_true rfl) rfl (by decide) rfl (Nat.le_of_ble_eq_true rfl) (Nat.le_of_ble_eq_true rfl) (Nat.le_of_ble_eq_true rfl) (c_X7_number0 hst N b n x 0 wn (nI wn - 1) (hT.keep hE) h4 hxn (by decide) (by omega) h5 (hi_wn2 (by omega))) RmN_nx rfl ?_
                          intro v N2 h
                          rcases h with ⟨k, p, v, e, r, hE2, hF⟩ | ⟨e1, V, e, r, hN⟩
                          · cases r
                            have hk := num_k e
                            rw [e] at hq
                            have hE3 : Eqx (Sw5 wn) M N2 := hE.tr (hE2.mono (fun _ _ q => S456_w q))
                            obtain ⟨F1, F2, a2, F3, F4⟩ := hF
                            refine z_ist3 dX7_clause_229 (Nat.le_of_ble_eq_true rfl) rfl ?_
                            refine z_aload_n dX7_clause_230 rfl rfl ?_
                            refine z_gi7 (j := 5) dX7_clause_231 (by decide) fl_X7_95 rfl rfl rfl ?_
                            refine z_if_ne (tgt := 252) dX7_clause_234 (by decide) rfl (fun g7 => ?_) (fun g7 => ?_)
                            · refine z_aload_n dX7_clause_252 rfl rfl ?_
                              refine z_cn0 (ci := 7) (nf := 32) (y := mX7_blanks) dX7_clause_253 ml_X7_98 iv_X7_blanks (Nat.le_of_ble_eq_true rfl) rfl (by decide) rfl (Nat.le_of_ble_eq_true rfl) (Nat.le_of_ble_eq_true rfl) (Nat.le_of_ble_eq_true rfl) (c_X7_blanks hst N2 b n a2 (hT.keep hE3) F3 F4) rfl ?_
                              have hF2 : FL n k p (mu N2 99 4 (nI (run (isBl b) n a2))) := ⟨F1, F2, _, rfl, run_le a2 F4⟩
                              have hE4 : Eqx (Sw5 wn) M (mu N2 99 4 (nI (run (isBl b) n a2))) := hE3.mu (by unfold Sw5; omega)
                              generalize mu N2 99 4 (nI (run (isBl b) n a2)) = N3 at hF2 hE4 ⊢
                              refine z_aload_n dX7_clause_256 rfl rfl ?_
                              refine z_gi7 (j := 5) dX7_clause_257 (by decide) fl_X7_95 rfl rfl rfl ?_
                              refine z_if_ne (tgt := 281) dX7_clause_260 (by decide) rfl (fun g8 => ?_) (fun g8 => ?_)
                              · refine z_iconst (v := 0) dX7_clause_281 (by decide) rfl ?_
                                refine z_ist2 dX7_clause_282 (Nat.le_of_ble_eq_true rfl) rfl ?_
                                refine z_goto (tgt := 214) dX7_clause_283 (by decide) ?_
                                refine z_iload_n dX7_clause_214 rfl rfl ?_
                                refine z_if_eq (tgt := 286) dX7_clause_215 (by decide) rfl (fun g9 => ?_) (fun g9 => ?_)
                                · exact fail286 N3 k p _ _ (by omega) (by omega) (inl_of hq.symm) hE4 hF2
                                · exact absurd rfl g9
                              · rw [hF2.1] at g8
                                exact absurd ((nI_eq (b := 0) (by omega) (by decide)).mp g8) (by omega)
                            · rw [F1] at g7
                              exact absurd ((nI_eq (b := 0) (by omega) (by decide)).mp g7) (by omega)
                          · cases r
                            rw [e] at hq
                            simp only at hq
                            obtain ⟨b1, b2, b3, b4⟩ := num_ok hxn e
                            subst hN
                            refine z_ist3 dX7_clause_229 (Nat.le_of_ble_eq_true rfl) rfl ?_
                            refine z_aload_n dX7_clause_230 rfl rfl ?_
                            refine z_gi7 (j := 5) dX7_clause_231 (by decide) fl_X7_95 rfl rfl rfl ?_
                            refine z_if_ne (tgt := 252) dX7_clause_234 (by decide) rfl (fun g7 => ?_) (fun g7 => ?_)
                            · exact absurd h5 g7
                            · refine z_aload_n dX7_clause_237 rfl rfl ?_
                              refine z_gr7 (j := 12) dX7_clause_238 (by decide) fl_X7_33 rfl rfl rfl ?_
                              refine z_aload_n dX7_clause_241 rfl rfl ?_
                              refine z_gi7 (j := 14) dX7_clause_242 (by decide) fl_X7_144 rfl rfl rfl ?_
                              refine z_tp (b := (nI wn)) n14 ?_
                              refine z_dup2 dX7_clause_245 rfl rfl rfl ?_
                              refine z_iald dX7_clause_246 (by first | rfl | exact knd_h (by omega) | exact knd_s (by omega)) rfl (by omega) (by decide) rfl ?_
                              refine z_iconst (v := 1) dX7_clause_247 (by decide) rfl ?_
                              refine z_iload_n dX7_clause_248 rfl rfl ?_
                              refine z_ishl dX7_clause_249 rfl ?_
                              refine z_ior dX7_clause_250 rfl ?_
                              refine z_iast dX7_clause_251 (by first | rfl | exact knd_h (by omega) | exact knd_s (by omega)) rfl (by omega) (by decide) rfl ?_
                              have hE3 : Eqx (Sw5 wn) M (mu (mu N 99 4 (nI e1)) 106 wn (mu N 99 4 (nI e1) 106 wn ||| ((1 : Int32) <<< (nI V &&& 31)))) := (hE.mu (by unfold Sw5; omega)).mu (by unfold Sw5; omega)
                              have m4 : mu (mu N 99 4 (nI e1)) 106 wn (mu N 99 4 (nI e1) 106 wn ||| ((1 : Int32) <<< (nI V &&& 31))) 99 4 = nI e1 := rfl
                              have m5 : mu (mu N 99 4 (nI e1)) 106 wn (mu N 99 4 (nI e1) 106 wn ||| ((1 : Int32) <<< (nI V &&& 31))) 99 5 = 0 := h5
                              have m6 : mu (mu N 99 4 (nI e1)) 106 wn (mu N 99 4 (nI e1) 106 wn ||| ((1 : Int32) <<< (nI V &&& 31))) 99 6 = M 99 6 := h6
                              have m8 : ∀ i, i < 5 → mu (mu N 99 4 (nI e1)) 106 wn (mu N 99 4 (nI e1) 106 wn ||| ((1 : Int32) <<< (nI V &&& 31))) 108 i = bI (rd2 i) := h8
                              have mD : DM wn rd2 (D2.1, D2.2.1, D2.2.2.1, D2.2.2.2.1, D2.2.2.2.2.1, fun i => D2.2.2.2.2.2 i || decide (i = V)) (mu (mu N 99 4 (nI e1)) 106 wn (mu N 99 4 (nI e1) 106 wn ||| ((1 : Int32) <<< (nI V &&& 31)))) := ⟨hD2.1, hD2.2.1, hD2.2.2.1, hD2.2.2.2.1, fun i hi => by
                                rw [mu_at, if_pos rfl, if_pos rfl]
                                show bt (N 106 wn ||| ((1 : Int32) <<< (nI V &&& 31))) i = _
                                rw [b_or, hD2.2.2.2.2 i hi, b_one V (by omega) i hi]⟩
                              generalize mu (mu N 99 4 (nI e1)) 106 wn (mu N 99 4 (nI e1) 106 wn ||| ((1 : Int32) <<< (nI V &&& 31))) = N3 at hE3 m4 m5 m6 m8 mD ⊢
                              refine z_aload_n dX7_clause_252 rfl rfl ?_
                              refine z_cn0 (ci := 7) (nf := 32) (y := mX7_blanks) dX7_clause_253 ml_X7_98 iv_X7_blanks (Nat.le_of_ble_eq_true rfl) rfl (by decide) rfl (Nat.le_of_ble_eq_true rfl) (Nat.le_of_ble_eq_true rfl) (Nat.le_of_ble_eq_true rfl) (c_X7_blanks hst N3 b n e1 (hT.keep hE3) m4 b2) rfl ?_
                              have hs1 := run_ge (p := isBl b) (n := n) e1
                              have hs2 := run_le (p := isBl b) e1 b2
                              generalize run (isBl b) n e1 = s at hq hs1 hs2 ⊢
                              have hE4 : Eqx (Sw5 wn) M (mu N3 99 4 (nI s)) := hE3.mu (by unfold Sw5; omega)
                              have hD4 : DM wn rd2 (D2.1, D2.2.1, D2.2.2.1, D2.2.2.2.1, D2.2.2.2.2.1, fun i => D2.2.2.2.2.2 i || decide (i = V)) (mu N3 99 4 (nI s)) := mD.keep (fun x h1 h2 => by rw [mu_o (by omega)])
                              refine z_aload_n dX7_clause_256 rfl rfl ?_
                              refine z_gi7 (j := 5) dX7_clause_257 (by decide) fl_X7_95 rfl rfl rfl ?_
                              refine z_if_ne (tgt := 281) dX7_clause_260 (by decide) rfl (fun g8 => ?_) (fun g8 => ?_)
                              · exact absurd m5 g8
                              · refine z_aload_n dX7_clause_263 rfl rfl ?_
                                refine z_aload_n dX7_clause_264 rfl rfl ?_
                                refine z_gi7 (j := 4) dX7_clause_265 (by decide) fl_X7_88 rfl rfl rfl ?_
                                refine z_tp (b := (nI s)) rfl ?_
                                refine z_cv1 (ci := 7) (nf := 32) (y := mX7_byteAt) dX7_clause_268 ml_X7_91 iv_X7_byteAt (Nat.le_of_ble_eq_true rfl) rfl (by decide) rfl (Nat.le_of_ble_eq_true rfl) (Nat.le_of_ble_eq_true rfl) (Nat.le_of_ble_eq_true rfl) (c_X7_byteAt hst _ b n s (hT.keep hE4) (by omega)) rfl ?_
                                refine z_sv1 (y := mX7_isDigit) dX7_clause_271 ml_X7_132 iv_X7_isDigit (Nat.le_of_ble_eq_true rfl) (Nat.le_of_ble_eq_true rfl) (Nat.le_of_ble_eq_true rfl) (Nat.le_of_ble_eq_true rfl) (c_X7_isDigit hst _ (bA b n s) (bA_lt (hT.keep hE4))) rfl ?_
                                rw [dg_bA]
                                by_cases cd : s < n ∧ isDg b s = true
                                · rw [decide_eq_true cd.1, cd.2]
                                  rw [if_pos cd] at hq
                                  refine z_if_eq (tgt := 281) dX7_clause_274 (by decide) rfl (fun g9 => ?_) (fun g9 => ?_)
                                  · exact absurd g9 (by decide)
                                  · refine z_iconst (v := 1) dX7_clause_277 (by decide) rfl ?_
                                    refine z_goto (tgt := 282) dX7_clause_278 (by decide) ?_
                                    refine z_ist2 dX7_clause_282 (Nat.le_of_ble_eq_true rfl) rfl ?_
                                    refine z_goto (tgt := 214) dX7_clause_283 (by decide) ?_
                                    exact ih s _ _ _ (by omega) hs2 hq hE4 rfl m5 m6 m8 hD4
                                · have hd : (decide (s < n) && isDg b s) = false := by
                                    cases q : isDg b s
                                    · rw [Bool.and_false]
                                    · rw [decide_eq_false (fun z => cd ⟨z, q⟩)]; rfl
                                  rw [hd]
                                  rw [if_neg cd] at hq
                                  refine z_if_eq (tgt := 281) dX7_clause_274 (by decide) rfl (fun g9 => ?_) (fun g9 => ?_)
                                  · refine z_iconst (v := 0) dX7_clause_281 (by decide) rfl ?_
                                    refine z_ist2 dX7_clause_282 (Nat.le_of_ble_eq_true rfl) rfl ?_
                                    refine z_goto (tgt := 214) dX7_clause_283 (by decide) ?_
                                    refine z_iload_n dX7_clause_214 rfl rfl ?_
                                    refine z_if_eq (tgt := 286) dX7_clause_215 (by decide) rfl (fun g10 => ?_) (fun g10 => ?_)
                                    · exact ok286 _ s _ _ _ hq.symm hs2 hE4 rfl m5 m6 m8 hD4
                                    · exact absurd rfl g10
                                  · exact absurd rfl g9
                    exact body (n + 1) a1 N1 D _ (by omega) cn er.symm hE1 f4 f5 f6 fh (fD.rd (fun q => hrr q (by decide)))
                  · exact absurd g5 (by decide)
                · exact absurd g4 (by decide)
              · exact absurd g3 (by decide)
            · exact absurd g2 (by decide)
        · exact absurd rfl g1
