/-! the class's search for BEST -/
def cmpB (P : Pb) (u v : Nat) : Bool := decide (0 < pT P u ∧ pT P u = pT P v) || (decide (0 < pD P u) && decide (0 < pD P v))
theorem NL_iff {P : Pb} {u v : Nat} : NL P u v ↔ (pA P u v || !cmpB P u v) = true := by
  unfold NL cmpB
  cases pA P u v
  · simp
    intro _
    by_cases q : pT P u = pT P v
    · simp [q]
    · simp [q]
  · simp
set_option maxHeartbeats 4000000 in
theorem c_X4_isAfter {l : Launch} {E : EnT} (hst : l.stackTraces = false) (M : Mem) (P : Pb) (r w o : Nat) (hW : WC P M r) (hw : w < pN P) (ho : o < pN P) : Mm l E mX4_isAfter 0 0 0 [.ref (w + 17), .int (nI o)] M (Rt (some (.int (bI (pA P w o)))) M) := by
  obtain ⟨w1, w2, w3, w4, w5⟩ := hW
  obtain ⟨g1, g2, g3, g4, g5, g6, g7, g8⟩ := w5 w hw
  have hk : knd (w + 17) = (4, 7) := knd_w (by omega)
  have A : (M (w + 17) 5 &&& ((1 : Int32) <<< (nI o &&& 31)) = 0) ↔ pA P w o = false := by
    rw [b_eq0]
    constructor
    · intro h
      have := h o (by omega)
      rw [b_and, g5 o (by omega), b_one o (by omega) o (by omega)] at this
      simpa [ho] using this
    · intro h i hi
      rw [b_and, g5 i hi, b_one o (by omega) i hi]
      by_cases hio : i = o
      · subst hio; simp [h]
      · simp [hio]
  refine Mm_go hst (by decide) rfl (Nat.le_of_ble_eq_true rfl) [some (.ref (w + 17)), some (.int (nI o))] rfl ?_
  refine z_aload_n dX4_isAfter_0 rfl rfl ?_
  refine z_gi4 (j := 5) dX4_isAfter_1 (by decide) fl_X4_27 (by first | assumption | rfl | exact knd_w (by omega)) rfl rfl ?_
  refine z_iconst (v := 1) dX4_isAfter_4 (by decide) rfl ?_
  refine z_iload_n dX4_isAfter_5 rfl rfl ?_
  refine z_ishl dX4_isAfter_6 rfl ?_
  refine z_iand dX4_isAfter_7 rfl ?_
  refine z_if_eq (tgt := 15) dX4_isAfter_8 (by decide) rfl (fun h1 => ?_) (fun h1 => ?_)
  · rw [A.mp h1]
    refine z_iconst (v := 0) dX4_isAfter_15 (by decide) rfl ?_
    exact z_zreturn dX4_isAfter_16 rfl rfl ⟨rfl, rfl⟩ (Nat.le_of_ble_eq_true rfl) (Nat.le_of_ble_eq_true rfl)
  · have : pA P w o = true := by
      cases h : pA P w o
      · exact absurd (A.mpr h) h1
      · rfl
    rw [this]
    refine z_iconst (v := 1) dX4_isAfter_11 (by decide) rfl ?_
    refine z_goto (tgt := 16) dX4_isAfter_12 (by decide) ?_
    exact z_zreturn dX4_isAfter_16 rfl rfl ⟨rfl, rfl⟩ (Nat.le_of_ble_eq_true rfl) (Nat.le_of_ble_eq_true rfl)
set_option maxHeartbeats 4000000 in
theorem c_X4_competesWith {l : Launch} {E : EnT} (hst : l.stackTraces = false) (M : Mem) (P : Pb) (r u v : Nat) (hW : WC P M r) (hu : u < pN P) (hv : v < pN P) : Mm l E mX4_competesWith 0 0 0 [.ref (u + 17), .ref (v + 17)] M (Rt (some (.int (bI (cmpB P u v)))) M) := by
  obtain ⟨w1, w2, w3, w4, w5⟩ := hW
  obtain ⟨g1, g2, g3, g4, -⟩ := w5 u hu
  obtain ⟨f1, f2, f3, f4, -⟩ := w5 v hv
  have A : (M (u + 17) 6 &&& M (v + 17) 6 = 0) ↔ ¬ (0 < pT P u ∧ pT P u = pT P v) := by
    rw [b_eq0]
    constructor
    · intro h ⟨q1, q2⟩
      have := h (pT P u) (by omega)
      rw [b_and, g3, f3, b_tbit g4 (by omega), b_tbit f4 (by omega)] at this
      simp at this
      omega
    · intro h i hi
      rw [b_and, g3, f3, b_tbit g4 hi, b_tbit f4 hi]
      cases ha : decide (0 < pT P u ∧ i = pT P u)
      · rfl
      · cases hb : decide (0 < pT P v ∧ i = pT P v)
        · rfl
        · have := of_decide_eq_true ha
          have := of_decide_eq_true hb
          omega
  refine Mm_go hst (by decide) rfl (Nat.le_of_ble_eq_true rfl) [some (.ref (u + 17)), some (.ref (v + 17))] rfl ?_
  refine z_aload_n dX4_competesWith_0 rfl rfl ?_
  refine z_gi4 (j := 6) dX4_competesWith_1 (by decide) fl_X4_30 (by first | assumption | rfl | exact knd_w (by omega)) rfl rfl ?_
  refine z_aload_n dX4_competesWith_4 rfl rfl ?_
  refine z_gi4 (j := 6) dX4_competesWith_5 (by decide) fl_X4_30 (by first | assumption | rfl | exact knd_w (by omega)) rfl rfl ?_
  refine z_iand dX4_competesWith_8 rfl ?_
  refine z_if_ne (tgt := 26) dX4_competesWith_9 (by decide) rfl (fun h1 => ?_) (fun h1 => ?_)
  · have : cmpB P u v = true := by
      unfold cmpB
      have := Classical.not_not.mp (fun q => h1 (A.mpr q))
      simp [this.1, this.2]
      exact Or.inl (by omega)
    rw [this]
    refine z_iconst (v := 1) dX4_competesWith_26 (by decide) rfl ?_
    refine z_goto (tgt := 31) dX4_competesWith_27 (by decide) ?_
    exact z_zreturn dX4_competesWith_31 rfl rfl ⟨rfl, rfl⟩ (Nat.le_of_ble_eq_true rfl) (Nat.le_of_ble_eq_true rfl)
  · have hA := A.mp h1
    refine z_aload_n dX4_competesWith_12 rfl rfl ?_
    refine z_gi4 (j := 3) dX4_competesWith_13 (by decide) fl_X4_24 (by first | assumption | rfl | exact knd_w (by omega)) rfl rfl ?_
    refine z_if_le (tgt := 30) dX4_competesWith_16 (by decide) rfl (fun h2 => ?_) (fun h2 => ?_)
    · rw [g1] at h2
      have := le_nn (b := 0) h2 (by omega) (by decide)
      have : cmpB P u v = false := by
        unfold cmpB
        rw [decide_eq_false hA, decide_eq_false (p := 0 < pD P u) (by omega)]; rfl
      rw [this]
      refine z_iconst (v := 0) dX4_competesWith_30 (by decide) rfl ?_
      exact z_zreturn dX4_competesWith_31 rfl rfl ⟨rfl, rfl⟩ (Nat.le_of_ble_eq_true rfl) (Nat.le_of_ble_eq_true rfl)
    · rw [g1] at h2
      have hu0 := nle_nn (b := 0) h2 (by omega) (by decide)
      refine z_aload_n dX4_competesWith_19 rfl rfl ?_
      refine z_gi4 (j := 3) dX4_competesWith_20 (by decide) fl_X4_24 (by first | assumption | rfl | exact knd_w (by omega)) rfl rfl ?_
      refine z_if_le (tgt := 30) dX4_competesWith_23 (by decide) rfl (fun h3 => ?_) (fun h3 => ?_)
      · rw [f1] at h3
        have := le_nn (b := 0) h3 (by omega) (by decide)
        have : cmpB P u v = false := by
          unfold cmpB
          rw [decide_eq_false hA, decide_eq_false (p := 0 < pD P v) (by omega), Bool.and_false]; rfl
        rw [this]
        refine z_iconst (v := 0) dX4_competesWith_30 (by decide) rfl ?_
        exact z_zreturn dX4_competesWith_31 rfl rfl ⟨rfl, rfl⟩ (Nat.le_of_ble_eq_true rfl) (Nat.le_of_ble_eq_true rfl)
      · rw [f1] at h3
        have hv0 := nle_nn (b := 0) h3 (by omega) (by decide)
        have : cmpB P u v = true := by
          unfold cmpB
          rw [decide_eq_true (p := 0 < pD P u) hu0, decide_eq_true (p := 0 < pD P v) hv0]; simp
        rw [this]
        refine z_iconst (v := 1) dX4_competesWith_26 (by decide) rfl ?_
        refine z_goto (tgt := 31) dX4_competesWith_27 (by decide) ?_
        exact z_zreturn dX4_competesWith_31 rfl rfl ⟨rfl, rfl⟩ (Nat.le_of_ble_eq_true rfl) (Nat.le_of_ble_eq_true rfl)
def ndB (P : Pb) (t : Nat → Nat) (pos j : Nat) : Bool := decide (0 < pos) && (decide (j ≤ t (pos - 1)) && (pA P (t (pos - 1)) j || !cmpB P (t (pos - 1)) j))
set_option maxHeartbeats 4000000 in
theorem c_X1_isNeedless {l : Launch} {E : EnT} (hst : l.stackTraces = false) (M : Mem) (P : Pb) (r pos j : Nat) (t : Nat → Nat) (hW : WC P M r) (h7 : pos ≤ 7) (ht : ∀ k, k < pos → M 13 k = nI (t k) ∧ t k < pN P) (hj : j < pN P) : Mm l E mX1_isNeedless 1 0 0 [.ref 3, .ref 2, .int (nI pos), .int (nI j)] M (Rt (some (.int (bI (ndB P t pos j)))) M) := by
  have h16 : pN P ≤ 16 := hW.2.1
  refine Mm_go hst (by decide) rfl (Nat.le_of_ble_eq_true rfl) [some (.ref 3), some (.ref 2), some (.int (nI pos)), some (.int (nI j)), none] rfl ?_
  refine z_iload_n dX1_isNeedless_0 rfl rfl ?_
  refine z_if_eq (tgt := 16) dX1_isNeedless_1 (by decide) rfl (fun h1 => ?_) (fun h1 => ?_)
  · have h0 : pos = 0 := (nI_eq (by omega) (by decide)).mp h1
    have : ndB P t pos j = false := by unfold ndB; rw [decide_eq_false (p := 0 < pos) (by omega)]; rfl
    rw [this]
    refine z_iconst (v := 0) dX1_isNeedless_16 (by decide) rfl ?_
    exact z_zreturn dX1_isNeedless_17 rfl rfl ⟨rfl, rfl⟩ (Nat.le_of_ble_eq_true rfl) (Nat.le_of_ble_eq_true rfl)
  · have h0 : pos ≠ 0 := fun q => h1 (by rw [q]; rfl)
    have ei : nI pos - 1 = nI (pos - 1) := pk_sub (b := 1) (by omega)
    obtain ⟨e1, e2⟩ := ht (pos - 1) (by omega)
    refine z_aload_n dX1_isNeedless_4 rfl rfl ?_
    refine z_gr1 (j := 2) dX1_isNeedless_5 (by decide) fl_X1_15 rfl rfl rfl ?_
    refine z_iload_n dX1_isNeedless_8 rfl rfl ?_
    refine z_iconst (v := 1) dX1_isNeedless_9 (by decide) rfl ?_
    refine z_isub dX1_isNeedless_10 rfl ?_
    refine z_iald dX1_isNeedless_11 (by first | rfl | exact knd_h (by omega) | exact knd_s (by omega)) ei (by omega) (by decide) rfl ?_
    refine z_tp (b := (nI (t (pos - 1)))) e1 ?_
    refine z_iload_n dX1_isNeedless_12 rfl rfl ?_
    refine z_icmp_ge (tgt := 18) dX1_isNeedless_13 (by decide) rfl (fun h2 => ?_) (fun h2 => ?_)
    · have hle := le_nn h2 (by omega) (by omega)
      refine z_aload_n dX1_isNeedless_18 rfl rfl ?_
      refine z_gr2 (j := 0) dX1_isNeedless_19 (by decide) fl_X1_52 rfl rfl rfl ?_
      refine z_aload_n dX1_isNeedless_22 rfl rfl ?_
      refine z_gr1 (j := 2) dX1_isNeedless_23 (by decide) fl_X1_15 rfl rfl rfl ?_
      refine z_iload_n dX1_isNeedless_26 rfl rfl ?_
      refine z_iconst (v := 1) dX1_isNeedless_27 (by decide) rfl ?_
      refine z_isub dX1_isNeedless_28 rfl ?_
      refine z_iald dX1_isNeedless_29 (by first | rfl | exact knd_h (by omega) | exact knd_s (by omega)) ei (by omega) (by decide) rfl ?_
      refine z_tp (b := (nI (t (pos - 1)))) e1 ?_
      refine z_aldW dX1_isNeedless_30 rfl rfl (by omega) (by decide) rfl ?_
      refine z_ast4 dX1_isNeedless_31 (Nat.le_of_ble_eq_true rfl) rfl ?_
      refine z_aload dX1_isNeedless_33 rfl rfl ?_
      refine z_iload_n dX1_isNeedless_35 rfl rfl ?_
      refine z_cv1 (ci := 4) (nf := 7) (y := mX4_isAfter) dX1_isNeedless_36 ml_X1_56 iv_X4_isAfter (Nat.le_of_ble_eq_true rfl) rfl (by decide) (by first | assumption | rfl | exact knd_w (by omega)) (Nat.le_of_ble_eq_true rfl) (Nat.le_of_ble_eq_true rfl) (Nat.le_of_ble_eq_true rfl) (c_X4_isAfter hst M P r (t (pos - 1)) j hW e2 hj) rfl ?_
      cases ha : pA P (t (pos - 1)) j with
      | true =>
        have : ndB P t pos j = true := by unfold ndB; rw [decide_eq_true (p := 0 < pos) (by omega), decide_eq_true hle, ha]; rfl
        rw [this]
        refine z_if_ne (tgt := 56) dX1_isNeedless_39 (by decide) rfl (fun h3 => ?_) (fun h3 => ?_)
        · refine z_iconst (v := 1) dX1_isNeedless_56 (by decide) rfl ?_
          refine z_goto (tgt := 61) dX1_isNeedless_57 (by decide) ?_
          exact z_zreturn dX1_isNeedless_61 rfl rfl ⟨rfl, rfl⟩ (Nat.le_of_ble_eq_true rfl) (Nat.le_of_ble_eq_true rfl)
        · exact absurd h3 (by decide)
      | false =>
        refine z_if_ne (tgt := 56) dX1_isNeedless_39 (by decide) rfl (fun h3 => ?_) (fun h3 => ?_)
        · exact absurd rfl h3
        · refine z_aload dX1_isNeedless_42 rfl rfl ?_
          refine z_aload_n dX1_isNeedless_44 rfl rfl ?_
          refine z_gr2 (j := 0) dX1_isNeedless_45 (by decide) fl_X1_52 rfl rfl rfl ?_
          refine z_iload_n dX1_isNeedless_48 rfl rfl ?_
          refine z_aldW dX1_isNeedless_49 rfl rfl (by omega) (by decide) rfl ?_
          refine z_cv1 (ci := 4) (nf := 7) (y := mX4_competesWith) dX1_isNeedless_50 ml_X1_62 iv_X4_competesWith (Nat.le_of_ble_eq_true rfl) rfl (by decide) (by first | assumption | rfl | exact knd_w (by omega)) (Nat.le_of_ble_eq_true rfl) (Nat.le_of_ble_eq_true rfl) (Nat.le_of_ble_eq_true rfl) (c_X4_competesWith hst M P r (t (pos - 1)) j hW e2 hj) rfl ?_
          cases hc : cmpB P (t (pos - 1)) j with
          | true =>
            have : ndB P t pos j = false := by unfold ndB; rw [ha, hc]; simp
            rw [this]
            refine z_if_ne (tgt := 60) dX1_isNeedless_53 (by decide) rfl (fun h4 => ?_) (fun h4 => ?_)
            · refine z_iconst (v := 0) dX1_isNeedless_60 (by decide) rfl ?_
              exact z_zreturn dX1_isNeedless_61 rfl rfl ⟨rfl, rfl⟩ (Nat.le_of_ble_eq_true rfl) (Nat.le_of_ble_eq_true rfl)
            · exact absurd h4 (by decide)
          | false =>
            have : ndB P t pos j = true := by unfold ndB; rw [decide_eq_true (p := 0 < pos) (by omega), decide_eq_true hle, ha, hc]; rfl
            rw [this]
            refine z_if_ne (tgt := 60) dX1_isNeedless_53 (by decide) rfl (fun h4 => ?_) (fun h4 => ?_)
            · exact absurd rfl h4
            · refine z_iconst (v := 1) dX1_isNeedless_56 (by decide) rfl ?_
              refine z_goto (tgt := 61) dX1_isNeedless_57 (by decide) ?_
              exact z_zreturn dX1_isNeedless_61 rfl rfl ⟨rfl, rfl⟩ (Nat.le_of_ble_eq_true rfl) (Nat.le_of_ble_eq_true rfl)
    · have hlt := nle_nn h2 (by omega) (by omega)
      have : ndB P t pos j = false := by unfold ndB; rw [decide_eq_false (p := j ≤ t (pos - 1)) (by omega)]; simp
      rw [this]
      refine z_iconst (v := 0) dX1_isNeedless_16 (by decide) rfl ?_
      exact z_zreturn dX1_isNeedless_17 rfl rfl ⟨rfl, rfl⟩ (Nat.le_of_ble_eq_true rfl) (Nat.le_of_ble_eq_true rfl)
