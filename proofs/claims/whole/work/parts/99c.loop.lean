/-! the law's loop -/
theorem and31 (y : Int32) : ∃ x, x < 32 ∧ y &&& 31 = nI x := by
  have hl : (y &&& 31).toBitVec.toNat < 32 := by
    rw [Int32.toBitVec_and, BitVec.toNat_and]
    exact Nat.lt_of_le_of_lt Nat.and_le_right (by decide)
  refine ⟨(y &&& 31).toBitVec.toNat, hl, ?_⟩
  apply Int32.toInt_inj.mp
  rw [nI_toInt (by omega)]
  show (y &&& 31).toBitVec.toInt = _
  exact BitVec.toInt_eq_toNat_of_lt (by omega)
theorem lt6 {L i : Nat} (hL : L ≤ 3072) (hi : i ≤ 100000) : nI L - 6 < nI i ↔ L < i + 6 := by
  rcases Nat.lt_or_ge L 6 with q | q
  · have h1 : (nI L - 6).toInt < 0 := by
      rcases (by omega : L = 0 ∨ L = 1 ∨ L = 2 ∨ L = 3 ∨ L = 4 ∨ L = 5) with e | e | e | e | e | e <;> subst e <;> decide
    rw [Int32.lt_iff_toInt_lt, nI_toInt (by omega)]
    constructor <;> intro <;> omega
  · rw [show nI L - 6 = nI (L - 6) from pk_sub (b := 6) q, nI_ltI (by omega) (by omega)]; omega
set_option maxHeartbeats 16000000 in
theorem lw_loop {l : Launch} {E : EnT} {F : List Frame → Array Value → State → State → Prop} (hst : l.stackTraces = false) (hV : hVw E) (hL : eL E ≤ 3072) (K : ∀ cu su N x v5 v6, cu ≤ 601024 → su ≤ 7293034 → Zz (zl l E F) cu su 991 [some (.ref 2000), some (.ref 0), some (.ref 99), some (.ref 119), some (.int x), v5, v6] [] N) : ∀ (k i cu su : Nat) (M : Mem) (u5 u6 : Option Value), eL E < i + 6 * k + 6 → i + 6 * k ≤ 50000 → cu + k ≤ 601024 → su + 6 * k ≤ 7293034 → Inv M → Zz (zl l E F) cu su 23 [some (.ref 2000), some (.ref 0), some (.ref 99), some (.ref 119), some (.int (nI i)), u5, u6] [] M := by
  intro k
  induction k with
  | zero =>
    intro i cu su M u5 u6 hk hi hcu hsu hI
    refine z_iload dL_law_23 rfl rfl ?_
    refine z_aload_n dL_law_25 rfl rfl ?_
    refine z_slen (X := zl l E F) dL_law_26 rfl ?_
    refine z_bipush (v := 6) dL_law_27 (by decide) rfl ?_
    refine z_isub dL_law_29 rfl ?_
    refine z_icmp_gt (tgt := 991) dL_law_30 (by decide) rfl (fun g => ?_) (fun g => ?_)
    · exact K _ _ _ _ _ _ (by omega) (by omega)
    · exact absurd ((lt6 hL (by omega)).mpr (by omega)) g
  | succ k ih =>
    intro i cu su M u5 u6 hk hi hcu hsu hI
    have nx : ∀ cu2 su2 N v5 v6, cu2 ≤ cu + 1 → su2 ≤ su + 6 → Inv N → Zz (zl l E F) cu2 su2 985 [some (.ref 2000), some (.ref 0), some (.ref 99), some (.ref 119), some (.int (nI i)), v5, v6] [] N := fun cu2 su2 N v5 v6 h1 h2 h3 => by
      refine z_inc4 (r := nI (i + 6)) dL_law_985 (Nat.le_of_ble_eq_true rfl) (nI_add i 6) rfl ?_
      refine z_goto (tgt := 23) dL_law_988 (by decide) ?_
      exact ih (i + 6) cu2 su2 N v5 v6 (by omega) (by omega) (by omega) (by omega) h3
    refine z_iload dL_law_23 rfl rfl ?_
    refine z_aload_n dL_law_25 rfl rfl ?_
    refine z_slen (X := zl l E F) dL_law_26 rfl ?_
    refine z_bipush (v := 6) dL_law_27 (by decide) rfl ?_
    refine z_isub dL_law_29 rfl ?_
    refine z_icmp_gt (tgt := 991) dL_law_30 (by decide) rfl (fun g => ?_) (fun g => ?_)
    · exact K _ _ _ _ _ _ (by omega) (by omega)
    · have hlen : i + 6 ≤ eL E := Nat.le_of_not_lt fun q => g ((lt6 hL (by omega)).mpr q)
      refine z_aload_n dL_law_33 rfl rfl ?_
      refine z_iload dL_law_34 rfl rfl ?_
      refine z_sld (X := zl l E F) (vp_in_nI (show i < eL E by omega) (show eL E < 2 ^ 31 by omega)) dL_law_36 rfl ?_
      refine z_bipush (v := 31) dL_law_37 (by decide) rfl ?_
      refine z_iand dL_law_39 rfl ?_
      obtain ⟨x, x1, x2⟩ := and31 (eX E (nI i).toNatClampNeg)
      refine z_tp (b := nI x) x2 ?_
      rcases (by omega : x = 0 ∨ x = 1 ∨ x = 2 ∨ x = 3 ∨ x = 4 ∨ x = 5 ∨ x = 6 ∨ x = 7 ∨ x = 8 ∨ x = 9 ∨ x = 10 ∨ x = 11 ∨ x = 12 ∨ x = 13 ∨ x = 14 ∨ x = 15 ∨ x = 16 ∨ x = 17 ∨ x = 18 ∨ x = 19 ∨ x = 20 ∨ x = 21 ∨ 22 ≤ x) with e | e | e | e | e | e | e | e | e | e | e | e | e | e | e | e | e | e | e | e | e | e | e
      · subst e
        refine z_tabIn (off := 104) (tgt := 144) dL_law_40 (by decide) (by decide) (by decide) (by decide) ?_
        exact lw_feed (by omega) (by omega) hlen hL (op_feed hst hI (eX E (i + 1)) (eX E (i + 2)) (eX E (i + 3)) (eX E (i + 4)) (eX E (i + 5))) (fun N h => nx cu su N _ _ (by omega) (by omega) h)
      · subst e
        refine z_tabIn (off := 177) (tgt := 217) dL_law_40 (by decide) (by decide) (by decide) (by decide) ?_
        exact lw_work hst (by omega) (by omega) hlen hL (op_work hst hV hI (eX E (i + 1))) nx
      · subst e
        refine z_tabIn (off := 233) (tgt := 273) dL_law_40 (by decide) (by decide) (by decide) (by decide) ?_
        exact lw_fault (by omega) (by omega) (op_fault hst hI) (fun N h => nx cu su N _ _ (by omega) (by omega) h)
      · subst e
        refine z_tabIn (off := 246) (tgt := 286) dL_law_40 (by decide) (by decide) (by decide) (by decide) ?_
        exact lw_told hst (by omega) (by omega) hlen hL (op_told hst hI (eX E (i + 1)) (eX E (i + 2))) nx
      · subst e
        refine z_tabIn (off := 314) (tgt := 354) dL_law_40 (by decide) (by decide) (by decide) (by decide) ?_
        exact lw_set hst (by omega) (by omega) hlen hL (op_set hst hI (eX E (i + 1)) (eX E (i + 2))) nx
      · subst e
        refine z_tabIn (off := 382) (tgt := 422) dL_law_40 (by decide) (by decide) (by decide) (by decide) ?_
        exact lw_noise (by omega) (by omega) hlen hL (op_noise hst hI (eX E (i + 1))) (fun N h => nx cu su N _ _ (by omega) (by omega) h)
      · subst e
        refine z_tabIn (off := 407) (tgt := 447) dL_law_40 (by decide) (by decide) (by decide) (by decide) ?_
        exact lw_draw (by omega) (by omega) (op_draw hst hI) (fun N h => nx cu su N _ _ (by omega) (by omega) h)
      · subst e
        refine z_tabIn (off := 420) (tgt := 460) dL_law_40 (by decide) (by decide) (by decide) (by decide) ?_
        exact lw_hours hst (by omega) (by omega) hlen hL (op_hours hst hI (eX E (i + 1)) (eX E (i + 2))) nx
      · subst e
        refine z_tabIn (off := 488) (tgt := 528) dL_law_40 (by decide) (by decide) (by decide) (by decide) ?_
        exact lw_end hst (by omega) (by omega) hlen hL (op_end hst hI (eX E (i + 1))) nx
      · subst e
        refine z_tabIn (off := 544) (tgt := 584) dL_law_40 (by decide) (by decide) (by decide) (by decide) ?_
        exact lw_begins hst (by omega) (by omega) hlen hL (op_begins hst hI (eX E (i + 1)) (eX E (i + 2))) nx
      · subst e
        refine z_tabIn (off := 612) (tgt := 652) dL_law_40 (by decide) (by decide) (by decide) (by decide) ?_
        exact lw_best (by omega) (by omega) (op_best hst hI) (fun N h => nx cu su N _ _ (by omega) (by omega) h)
      · subst e
        refine z_tabIn (off := 625) (tgt := 665) dL_law_40 (by decide) (by decide) (by decide) (by decide) ?_
        exact lw_order (by omega) (by omega) hlen hL (op_order hst hI (eX E (i + 1))) (fun N h => nx cu su N _ _ (by omega) (by omega) h)
      · subst e
        refine z_tabIn (off := 650) (tgt := 690) dL_law_40 (by decide) (by decide) (by decide) (by decide) ?_
        exact lw_move hst (by omega) (by omega) hlen hL (op_move hst hI (eX E (i + 1)) (eX E (i + 2))) nx
      · subst e
        refine z_tabIn (off := 718) (tgt := 758) dL_law_40 (by decide) (by decide) (by decide) (by decide) ?_
        exact lw_part (by omega) (by omega) (op_part hst hI) (fun N h => nx cu su N _ _ (by omega) (by omega) h)
      · subst e
        refine z_tabIn (off := 731) (tgt := 771) dL_law_40 (by decide) (by decide) (by decide) (by decide) ?_
        exact lw_on (by omega) (by omega) (op_on hst hI) (fun N h => nx cu su N _ _ (by omega) (by omega) h)
      · subst e
        refine z_tabIn (off := 744) (tgt := 784) dL_law_40 (by decide) (by decide) (by decide) (by decide) ?_
        exact lw_off hst (by omega) (by omega) hlen hL (op_off hst hI (eX E (i + 1))) nx
      · subst e
        refine z_tabIn (off := 800) (tgt := 840) dL_law_40 (by decide) (by decide) (by decide) (by decide) ?_
        exact lw_last (by omega) (by omega) (op_last hst hI) (fun N h => nx cu su N _ _ (by omega) (by omega) h)
      · subst e
        refine z_tabIn (off := 813) (tgt := 853) dL_law_40 (by decide) (by decide) (by decide) (by decide) ?_
        exact lw_train hst (by omega) (by omega) hlen hL (op_train hst hI (eX E (i + 1))) nx
      · subst e
        refine z_tabIn (off := 869) (tgt := 909) dL_law_40 (by decide) (by decide) (by decide) (by decide) ?_
        exact lw_ends (by omega) (by omega) (op_ends hst hI) (fun N h => nx cu su N _ _ (by omega) (by omega) h)
      · subst e
        refine z_tabIn (off := 882) (tgt := 922) dL_law_40 (by decide) (by decide) (by decide) (by decide) ?_
        exact lw_leave (by omega) (by omega) (op_leave hst hI) (fun N h => nx cu su N _ _ (by omega) (by omega) h)
      · subst e
        refine z_tabIn (off := 895) (tgt := 935) dL_law_40 (by decide) (by decide) (by decide) (by decide) ?_
        exact lw_out (by omega) (by omega) hlen hL (op_out hst hI (eX E (i + 1))) (fun N h => nx cu su N _ _ (by omega) (by omega) h)
      · subst e
        refine z_tabIn (off := 920) (tgt := 960) dL_law_40 (by decide) (by decide) (by decide) (by decide) ?_
        exact lw_count (by omega) (by omega) hlen hL (op_count hst hI (eX E (i + 1))) (fun N h => nx cu su N _ _ (by omega) (by omega) h)
      · refine z_tabOut (tgt := 985) dL_law_40 (Or.inr (by rw [nI_toInt (by omega)]; show (21 : Int) < _; omega)) (by decide) ?_
        exact nx cu su M _ _ (by omega) (by omega) hI
