theorem allB_iff {s : Sch} : ∀ {m : Nat}, allB s m = true ↔ ∀ w, w < m → (s w).isSome = true
  | 0 => ⟨fun _ w h => absurd h (Nat.not_lt_zero w), fun _ => rfl⟩
  | m + 1 => by
    unfold allB
    rw [Bool.and_eq_true, allB_iff (m := m)]
    constructor
    · intro ⟨h1, h2⟩ w hw
      rcases Nat.lt_or_ge w m with q | q
      · exact h1 w q
      · have : w = m := by omega
        subst this; exact h2
    · intro h
      exact ⟨fun w hw => h w (by omega), h m (by omega)⟩
theorem b_mask : ∀ n, n < 17 → ∀ i, i < 32 → bt (((1 : Int32) <<< (nI n &&& 31)) - 1) i = decide (i < n) := by decide +kernel
def enI : Option Nat → Int32
  | none => -1
  | some h => nI h
theorem goS_s {P : Pb} {od : Nat → Nat} {f h : Nat} {s : Sch} : goS P od (f + 1) s h = match nxTo P (bgTo P od h (isEnd P s h) s (pN P)) (isEnd P s h) (pN P) with | none => (bgTo P od h (isEnd P s h) s (pN P), h) | some h1 => goS P od f (bgTo P od h (isEnd P s h) s (pN P)) h1 := rfl
theorem useTo_0 {P : Pb} {s : Sch} {e : Nat → Bool} (h : ∀ w, s w = none) : ∀ {m : Nat}, useTo P s e m = 0
  | 0 => rfl
  | m + 1 => by
    unfold useTo
    rw [useTo_0 h]
    unfold runs
    rw [h m]; rfl
set_option maxHeartbeats 8000000 in
theorem c_X2_walk {l : Launch} {E : EnT} (hst : l.stackTraces = false) (M : Mem) (P : Pb) (r oc len : Nat) (od : Nat → Nat) (hr : r < 22) (hoc : knd oc = (10, len)) (hol : pN P ≤ len) (hl31 : len < 2 ^ 31) (ho9 : oc = 9 ∨ oc = 13) (hW : WC P M r) (hod : ∀ k, k < pN P → M oc k = nI (od k) ∧ od k < pN P) : Mm l E mX2_walk 2 0 0 [.ref 2, .int (nI r), .ref oc] M (RP (some (.int (enI (endS P od)))) (fun N => Eqx (Sx r) M N ∧ (∀ w, w < pN P → N (r + 77) w = stI (schd P od w)) ∧ N (r + 33) 2 = enI (endS P od))) := by
  refine Mm_go hst (by decide) rfl (Nat.le_of_ble_eq_true rfl) [some (.ref 2), some (.int (nI r)), some (.ref oc), none, none, none] rfl ?_
  have h16 : pN P ≤ 16 := hW.2.1
  have hodn : ∀ k, k < pN P → od k < pN P := fun k hk => (hod k hk).2
  have hH : ∀ w, w < pN P → 1 ≤ pH P w ∧ pH P w ≤ 40 := fun w hw => (hW.2.2.2.2 w hw).2.2.2.2.2.2
  -- the end
  have fin : ∀ (N : Mem) (s : Sch) (h : Nat) (u : Option Value) (e : Nat → Bool), Eqx (Sx r) M N → CR P N r s e → (∀ w, w < pN P → (s w).isSome = e w) → goS P od (pN P + 1) s0 0 = (s, h) → Zz (zx l E mX2_walk 2 (RP (some (.int (enI (endS P od)))) (fun N => Eqx (Sx r) M N ∧ (∀ w, w < pN P → N (r + 77) w = stI (schd P od w)) ∧ N (r + 33) 2 = enI (endS P od)))) 0 0 93 [some (.ref 2), some (.int (nI r)), some (.ref oc), some (.ref (r + 33)), some (.int (nI h)), u] [] N := by
    intro N s h u e hE hC hse hgo
    have hWN := hW.keep hr hE
    have hsch : schd P od = s := by unfold schd; rw [hgo]
    have hcr : ∀ v w, mu N (r + 33) 2 v (r + 77) w = N (r + 77) w := fun v w => by rw [mu_o (by omega)]
    have hcf : ∀ v, mu N (r + 33) 2 v (r + 33) 2 = v := fun v => by rw [mu_k]; unfold upd; rw [if_pos rfl]
    have test : (N 2 8 = ((1 : Int32) <<< (N 2 3 &&& 31)) - 1) ↔ allB s (pN P) = true := by
      rw [hWN.1, allB_iff]
      constructor
      · intro q w hw
        have h1 := hC.2.1 w (by omega)
        rw [q, b_mask _ (by omega) _ (by omega)] at h1
        rw [hse w hw]
        simpa [hw] using h1.symm
      · intro q
        apply b_ext
        intro i hi
        rw [hC.2.1 i hi, b_mask _ (by omega) i hi]
        by_cases hin : i < pN P
        · simp [hin, ← hse i hin, q i hin]
        · simp [hin]
    refine z_aload_n dX2_walk_93 rfl rfl ?_
    refine z_aload_n dX2_walk_94 rfl rfl ?_
    refine z_gi2 (j := 8) dX2_walk_95 (by decide) fl_X2_71 rfl rfl rfl ?_
    refine z_iconst (v := 1) dX2_walk_98 (by decide) rfl ?_
    refine z_aload_n dX2_walk_99 rfl rfl ?_
    refine z_gi2 (j := 3) dX2_walk_100 (by decide) fl_X2_27 rfl rfl rfl ?_
    refine z_ishl dX2_walk_103 rfl ?_
    refine z_iconst (v := 1) dX2_walk_104 (by decide) rfl ?_
    refine z_isub dX2_walk_105 rfl ?_
    refine z_icmp_ne (tgt := 114) dX2_walk_106 (by decide) rfl (fun hc => ?_) (fun hc => ?_)
    · have hn : endS P od = none := by unfold endS; rw [hsch, if_neg (fun q => hc (test.mpr q))]
      rw [hn]
      refine z_iconst (v := (-1)) dX2_walk_114 (by decide) rfl ?_
      refine z_pi0 (j := 2) dX2_walk_115 (by decide) fl_X2_92 rfl rfl (by first | rfl | exact knd_r (by omega)) rfl rfl ?_
      refine z_aload_n dX2_walk_118 rfl rfl ?_
      refine z_gi0 (j := 2) dX2_walk_119 (by decide) fl_X2_92 (by first | rfl | exact knd_r (by omega)) rfl rfl ?_
      exact z_ireturn dX2_walk_122 rfl ⟨by rw [hcf]; rfl, hE.mu (by unfold Sx; omega), fun w hw => by rw [hcr, hsch]; exact hC.2.2.2.2.1 w hw, hcf _⟩ (Nat.le_of_ble_eq_true rfl) (Nat.le_of_ble_eq_true rfl)
    · have hn : endS P od = some h := by unfold endS; rw [hsch, if_pos (test.mp hc), hgo]
      rw [hn]
      refine z_iload dX2_walk_109 rfl rfl ?_
      refine z_goto (tgt := 115) dX2_walk_111 (by decide) ?_
      refine z_pi0 (j := 2) dX2_walk_115 (by decide) fl_X2_92 rfl rfl (by first | rfl | exact knd_r (by omega)) rfl rfl ?_
      refine z_aload_n dX2_walk_118 rfl rfl ?_
      refine z_gi0 (j := 2) dX2_walk_119 (by decide) fl_X2_92 (by first | rfl | exact knd_r (by omega)) rfl rfl ?_
      exact z_ireturn dX2_walk_122 rfl ⟨by rw [hcf]; rfl, hE.mu (by unfold Sx; omega), fun w hw => by rw [hcr, hsch]; exact hC.2.2.2.2.1 w hw, hcf _⟩ (Nat.le_of_ble_eq_true rfl) (Nat.le_of_ble_eq_true rfl)
  have loop : ∀ (f t : Nat), t + f = pN P + 1 → ∀ (N : Mem) (s : Sch) (h : Nat), Eqx (Sx r) M N → CR P N r s (isEnd P s h) → Good P s h → cntU (isEnd P s h) (pN P) < f → h ≤ 40 * t → goS P od (pN P + 1) s0 0 = goS P od f s h → Zz (zx l E mX2_walk 2 (RP (some (.int (enI (endS P od)))) (fun N => Eqx (Sx r) M N ∧ (∀ w, w < pN P → N (r + 77) w = stI (schd P od w)) ∧ N (r + 33) 2 = enI (endS P od)))) 0 0 44 [some (.ref 2), some (.int (nI r)), some (.ref oc), some (.ref (r + 33)), some (.int (nI h)), some (.int (nI t))] [] N := by
    intro f
    induction f with
    | zero => intro t ht N s h hE hC hg hcn; exact absurd hcn (Nat.not_lt_zero _)
    | succ f ih =>
      intro t ht N s h hE hC hg hcn hh hgo
      have hWN := hW.keep hr hE
      have hodN : ∀ k, k < pN P → N oc k = nI (od k) ∧ od k < pN P := fun k hk => ⟨by rw [hE oc k (by unfold Sx; omega)]; exact (hod k hk).1, (hod k hk).2⟩
      refine z_iload dX2_walk_44 rfl rfl ?_
      refine z_aload_n dX2_walk_46 rfl rfl ?_
      refine z_gi2 (j := 3) dX2_walk_47 (by decide) fl_X2_27 rfl rfl rfl ?_
      refine z_icmp_gt (tgt := 93) dX2_walk_50 (by decide) rfl (fun hc => ?_) (fun hc => ?_)
      · rw [hWN.1] at hc
        exact absurd (lt_nn hc (by omega) (by omega)) (by omega)
      · refine z_aload_n dX2_walk_53 rfl rfl ?_
        refine z_iload dX2_walk_54 rfl rfl ?_
        refine z_aload_n dX2_walk_56 rfl rfl ?_
        refine z_aload_n dX2_walk_57 rfl rfl ?_
        refine z_cp3 (ci := 2) (nf := 11) (y := mX2_beginAt) dX2_walk_58 ml_X2_80 iv_X2_beginAt (Nat.le_of_ble_eq_true rfl) rfl (by decide) rfl (Nat.le_of_ble_eq_true rfl) (Nat.le_of_ble_eq_true rfl) (Nat.le_of_ble_eq_true rfl) (c_X2_beginAt hst N P r oc len h od s (isEnd P s h) hr hoc hol hl31 ho9 hWN hC hodN (by omega)) rfl ?_
        intro N1 ⟨hE1, hC1⟩
        have hEM := hE.tr hE1
        have hWN1 := hW.keep hr hEM
        have e1 := isEnd_bg (P := P) (od := od) (h := h) (s := s) hodn (fun w hw => (hH w hw).1) (Nat.le_refl (pN P))
        have eq : (N1 2 7 = N1 2 8) ↔ nxTo P (bgTo P od h (isEnd P s h) s (pN P)) (isEnd P s h) (pN P) = none := by
          rw [nx_none]
          constructor
          · intro q w hw
            have h1 := hC1.1 w (by omega)
            have h2 := hC1.2.1 w (by omega)
            rw [q, h2] at h1
            simp only [hw, decide_true, Bool.true_and] at h1
            unfold runs
            rw [← h1]; simp
          · intro q
            apply b_ext
            intro i hi
            rw [hC1.1 i hi, hC1.2.1 i hi]
            by_cases hin : i < pN P
            · have h3 := q i hin
              unfold runs at h3
              cases h4 : isEnd P s h i with
              | true =>
                have h5 : (bgTo P od h (isEnd P s h) s (pN P) i).isSome = true := by
                  cases hs : bgTo P od h (isEnd P s h) s (pN P) i with
                  | some b => rfl
                  | none => rw [hC1.2.2.2.2.2.2.2 i hs] at h4; cases h4
                rw [h5]
              | false => rw [h4] at h3; simp only [Bool.not_false, Bool.and_true] at h3; rw [h3]
            · simp [hin]
        rw [goS_s (f := f)] at hgo
        refine z_aload_n dX2_walk_61 rfl rfl ?_
        refine z_gi2 (j := 7) dX2_walk_62 (by decide) fl_X2_68 rfl rfl rfl ?_
        refine z_aload_n dX2_walk_65 rfl rfl ?_
        refine z_gi2 (j := 8) dX2_walk_66 (by decide) fl_X2_71 rfl rfl rfl ?_
        refine z_icmp_ne (tgt := 75) dX2_walk_69 (by decide) rfl (fun hb => ?_) (fun hb => ?_)
        · cases hnx : nxTo P (bgTo P od h (isEnd P s h) s (pN P)) (isEnd P s h) (pN P) with
          | none => exact absurd (eq.mpr hnx) hb
          | some h1 =>
            rw [hnx] at hgo
            obtain ⟨t1, t2, t3, t4, t5, t6⟩ := turn hodn hH hg hnx
            have hBn : ∀ w b, w < pN P → bgTo P od h (isEnd P s h) s (pN P) w = some b → b + pH P w ≤ 200000 := fun w b hw hb => by
              have := t5 w b hb
              have := (hH w hw).2
              omega
            refine z_aload_n dX2_walk_75 rfl rfl ?_
            refine z_cv0 (ci := 2) (nf := 11) (y := mX2_nextStop) dX2_walk_76 ml_X2_84 iv_X2_nextStop (Nat.le_of_ble_eq_true rfl) rfl (by decide) rfl (Nat.le_of_ble_eq_true rfl) (Nat.le_of_ble_eq_true rfl) (Nat.le_of_ble_eq_true rfl) (c_X2_nextStop hst N1 P r _ _ hWN1.1 h16 hC1 hBn) rfl ?_
            refine z_tp (b := (nI h1)) (by rw [hnx]; rfl) ?_
            refine z_ist4 dX2_walk_79 (Nat.le_of_ble_eq_true rfl) rfl ?_
            refine z_aload_n dX2_walk_81 rfl rfl ?_
            refine z_iload dX2_walk_82 rfl rfl ?_
            refine z_cp1 (ci := 2) (nf := 11) (y := mX2_endAt) dX2_walk_84 ml_X2_88 iv_X2_endAt (Nat.le_of_ble_eq_true rfl) rfl (by decide) rfl (Nat.le_of_ble_eq_true rfl) (Nat.le_of_ble_eq_true rfl) (Nat.le_of_ble_eq_true rfl) (c_X2_endAt hst N1 P r h1 _ _ hr hWN1 hC1 (by omega) hBn) rfl ?_
            intro N2 ⟨hE2, hC2⟩
            first | refine z_iu5 dX2_walk_87 (Nat.le_of_ble_eq_true rfl) rfl ?_ | refine z_inc5 dX2_walk_87 (Nat.le_of_ble_eq_true rfl) rfl rfl ?_
            refine z_goto (tgt := 44) dX2_walk_90 (by decide) ?_
            refine ih (t + 1) (by omega) N2 _ h1 (hEM.tr hE2) (CR_cg hC2 (fun w hw => ?_) (fun w hw => isEnd_none hw)) t3 (by omega) (by omega) hgo
            rw [t6 w]; unfold eTo; simp only [hw, decide_true, Bool.true_and]
            cases bgTo P od h (isEnd P s h) s (pN P) w <;> rfl
        · have hnx := eq.mp hb
          rw [hnx] at hgo
          refine z_goto (tgt := 93) dX2_walk_72 (by decide) ?_
          refine fin N1 _ h _ _ hEM hC1 (fun w hw => ?_) hgo
          have h3 := nx_none.mp hnx w hw
          unfold runs at h3
          cases h4 : isEnd P s h w with
          | true =>
            cases hs : bgTo P od h (isEnd P s h) s (pN P) w with
            | some b => rfl
            | none => rw [hC1.2.2.2.2.2.2.2 w hs] at h4; cases h4
          | false => rw [h4] at h3; simpa using h3
  refine z_aload_n dX2_walk_0 rfl rfl ?_
  refine z_gr2 (j := 2) dX2_walk_1 (by decide) fl_X2_23 rfl rfl rfl ?_
  refine z_iload_n dX2_walk_4 rfl rfl ?_
  refine z_aldR dX2_walk_5 rfl rfl (by omega) (by decide) rfl ?_
  refine z_ast3 dX2_walk_6 (Nat.le_of_ble_eq_true rfl) rfl ?_
  refine z_aload_n dX2_walk_7 rfl rfl ?_
  refine z_rowS dX2_walk_8 fl_X2_59 (by omega) rfl ?_
  refine z_iconst (v := (-1)) dX2_walk_11 (by decide) rfl ?_
  refine z_sn2 (y := mJ7_fill_53178) dX2_walk_12 ml_X2_62 iv_J7_fill_53178 (Nat.le_of_ble_eq_true rfl) (Nat.le_of_ble_eq_true rfl) (Nat.le_of_ble_eq_true rfl) (Nat.le_of_ble_eq_true rfl) (c_J7_fill hst M r hr (-1)) rfl ?_
  refine z_aload_n dX2_walk_15 rfl rfl ?_
  refine z_iconst (v := 0) dX2_walk_16 (by decide) rfl ?_
  refine z_pi2 (j := 7) dX2_walk_17 (by decide) fl_X2_68 rfl rfl rfl rfl rfl ?_
  refine z_aload_n dX2_walk_20 rfl rfl ?_
  refine z_iconst (v := 0) dX2_walk_21 (by decide) rfl ?_
  refine z_pi2 (j := 8) dX2_walk_22 (by decide) fl_X2_71 rfl rfl rfl rfl rfl ?_
  refine z_aload_n dX2_walk_25 rfl rfl ?_
  refine z_iconst (v := 0) dX2_walk_26 (by decide) rfl ?_
  refine z_pi2 (j := 9) dX2_walk_27 (by decide) fl_X2_74 rfl rfl rfl rfl rfl ?_
  refine z_aload_n dX2_walk_30 rfl rfl ?_
  refine z_aload_n dX2_walk_31 rfl rfl ?_
  refine z_gi2 (j := 5) dX2_walk_32 (by decide) fl_X2_34 rfl rfl rfl ?_
  refine z_pi2 (j := 10) dX2_walk_35 (by decide) fl_X2_77 rfl rfl rfl rfl rfl ?_
  refine z_iconst (v := 0) dX2_walk_38 (by decide) rfl ?_
  refine z_ist4 dX2_walk_39 (Nat.le_of_ble_eq_true rfl) rfl ?_
  refine z_iconst (v := 0) dX2_walk_41 (by decide) rfl ?_
  refine z_ist5 dX2_walk_42 (Nat.le_of_ble_eq_true rfl) rfl ?_
  have n3 : ¬ (r + 77 = 2) := by omega
  have ef : Eqx (Sx r) M (fil M (r + 77) 0 16 (fun _ => -1)) := fun a b hs => by
    unfold fil
    rw [if_neg (fun q => hs (by unfold Sx; omega))]
  refine loop (pN P + 1) 0 (by omega) _ s0 0 ((((ef.mu (by unfold Sx; omega)).mu (by unfold Sx; omega)).mu (by unfold Sx; omega)).mu (by unfold Sx; omega)) ?_ ⟨fun w b h => (nomatch h), fun _ _ => rfl⟩ (Nat.lt_succ_of_le cntU_le) (Nat.zero_le _) rfl
  refine ⟨fun i hi => ?_, fun i hi => ?_, fun i hi => ?_, ⟨?_, ?_⟩, fun w hw => ?_, fun w b hw hb => (nomatch hb), fun a b ha hb hab ra => ?_, fun w _ => rfl⟩
  · show bt 0 i = _
    rw [b_0]; simp [s0]
  · show bt 0 i = _
    rw [b_0]
    show false = (_ && isEnd P s0 0 i)
    rw [isEnd_none rfl]; simp
  · show bt 0 i = true ↔ _
    rw [b_0]
    constructor
    · intro q; cases q
    · rintro ⟨w, -, q, -⟩; unfold runs s0 at q; cases q
  · rw [useTo_0 (s := s0) (fun _ => rfl)]
    simp only [mu_at, if_true]
    show fil M (r + 77) 0 16 (fun _ => -1) 2 5 = nI (pC P - 0)
    rw [fil_o (by omega)]; exact hW.2.2.1
  · rw [useTo_0 (s := s0) (fun _ => rfl)]; exact Nat.zero_le _
  · rw [mu_o n3, mu_o n3, mu_o n3, mu_o n3, fil_i (by omega) (by omega)]; rfl
  · unfold runs s0 at ra; cases ra
