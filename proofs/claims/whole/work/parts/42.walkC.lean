def tbit (t : Nat) : Int32 := if t = 0 then 0 else (1 : Int32) <<< (nI t &&& 31)
theorem b_tbit {t i : Nat} (ht : t ≤ 3) (hi : i < 32) : bt (tbit t) i = decide (0 < t ∧ i = t) := by
  unfold tbit
  split
  · rename_i h; subst h; rw [b_0]; simp
  · rw [b_one t (by omega) i hi]
    have : 0 < t := by omega
    simp [this]
/-- the class's works, and the hours of row r -/
def WC (P : Pb) (M : Mem) (r : Nat) : Prop := M 2 3 = nI (pN P) ∧ pN P ≤ 16 ∧ M 2 5 = nI (pC P) ∧ pC P ≤ 60 ∧ ∀ w, w < pN P → M (w + 17) 3 = nI (pD P w) ∧ pD P w ≤ 30 ∧ M (w + 17) 6 = tbit (pT P w) ∧ pT P w ≤ 3 ∧ (∀ o, o < 32 → bt (M (w + 17) 5) o = (decide (o < pN P) && pA P w o)) ∧ M (r + 55) w = nI (pH P w) ∧ 1 ≤ pH P w ∧ pH P w ≤ 40
/-- what a walk through row r may change -/
def Sx (r a b : Nat) : Prop := (a = 2 ∧ 7 ≤ b) ∨ a = 11 ∨ a = r + 77 ∨ (a = r + 33 ∧ b = 2)
theorem WC.keep {P : Pb} {M N : Mem} {r : Nat} (h : WC P M r) (hr : r < 22) (he : Eqx (Sx r) M N) : WC P N r := by
  obtain ⟨h1, h2, h3, h4, h5⟩ := h
  refine ⟨by rw [he 2 3 (by unfold Sx; omega)]; exact h1, h2, by rw [he 2 5 (by unfold Sx; omega)]; exact h3, h4, fun w hw => ?_⟩
  obtain ⟨g1, g2, g3, g4, g5, g6, g7⟩ := h5 w hw
  refine ⟨by rw [he (w + 17) 3 (by unfold Sx; omega)]; exact g1, g2, by rw [he (w + 17) 6 (by unfold Sx; omega)]; exact g3, g4, by rw [he (w + 17) 5 (by unfold Sx; omega)]; exact g5, by rw [he (r + 55) w (by unfold Sx; omega)]; exact g6, g7⟩
def stI : Option Nat → Int32
  | none => -1
  | some b => nI b
/-- the class's picture of a schedule under way: begun s, ended e -/
def CR (P : Pb) (N : Mem) (r : Nat) (s : Sch) (e : Nat → Bool) : Prop :=
  (∀ i, i < 32 → bt (N 2 7) i = (decide (i < pN P) && (s i).isSome)) ∧
  (∀ i, i < 32 → bt (N 2 8) i = (decide (i < pN P) && e i)) ∧
  (∀ i, i < 32 → (bt (N 2 9) i = true ↔ ∃ w, w < pN P ∧ runs s e w = true ∧ pT P w = i ∧ 0 < i)) ∧
  (N 2 10 = nI (pC P - useTo P s e (pN P)) ∧ useTo P s e (pN P) ≤ pC P) ∧
  (∀ w, w < pN P → N (r + 77) w = stI (s w)) ∧ (∀ w b, w < pN P → s w = some b → N 11 w = nI (b + pH P w)) ∧
  (∀ a b, a < pN P → b < pN P → a ≠ b → runs s e a = true → runs s e b = true → 0 < pT P a → pT P a ≠ pT P b) ∧ (∀ w, s w = none → e w = false)
set_option maxHeartbeats 4000000 in
theorem c_X2_canBegin {l : Launch} {E : EnT} (hst : l.stackTraces = false) (M : Mem) (P : Pb) (r w : Nat) (s : Sch) (e : Nat → Bool) (hW : WC P M r) (hC : CR P M r s e) (hw : w < pN P) : Mm l E mX2_canBegin 0 0 0 [.ref 2, .ref (w + 17)] M (Rt (some (.int (bI (may P s e w)))) M) := by
  obtain ⟨w1, w2, w3, w4, w5⟩ := hW
  obtain ⟨g1, g2, g3, g4, g5, g6, g7, g8⟩ := w5 w hw
  obtain ⟨c1, c2, c3, ⟨c4, c5⟩, c6, c7, c8, c9⟩ := hC
  have hk : knd (w + 17) = (4, 7) := knd_w (by omega)
  have A1 : (M (w + 17) 5 &&& (M 2 8 ^^^ (-1)) = 0) ↔ ∀ o, o < pN P → pA P w o = true → e o = true := by
    rw [b_eq0]
    constructor
    · intro h o ho ha
      have := h o (by omega)
      rw [b_and, b_not _ (by omega), g5 o (by omega), c2 o (by omega)] at this
      simpa [ho, ha] using this
    · intro h i hi
      rw [b_and, b_not _ hi, g5 i hi, c2 i hi]
      by_cases hin : i < pN P
      · cases ha : pA P w i
        · simp
        · simp [hin, h i hin ha]
      · simp [hin]
  have A2 : (M (w + 17) 6 &&& M 2 9 = 0) ↔ ∀ o, o < pN P → ¬ (runs s e o = true ∧ 0 < pT P o ∧ pT P o = pT P w) := by
    rw [b_eq0]
    constructor
    · intro h o ho ⟨q1, q2, q3⟩
      have h1 := h (pT P w) (by omega)
      rw [b_and, g3, b_tbit g4 (by omega), (c3 (pT P w) (by omega)).mpr ⟨o, ho, q1, q3, by omega⟩] at h1
      simp at h1
      omega
    · intro h i hi
      rw [b_and, g3, b_tbit g4 hi]
      by_cases h1 : 0 < pT P w ∧ i = pT P w
      · have : bt (M 2 9) i = false := by
          cases hb : bt (M 2 9) i
          · rfl
          · obtain ⟨o, ho, q1, q2, q3⟩ := (c3 i hi).mp hb
            exact absurd ⟨q1, by omega, by omega⟩ (h o ho)
        rw [this, Bool.and_false]
      · simp [h1]
  have A3 : (M (w + 17) 3 ≤ M 2 10) ↔ useTo P s e (pN P) + pD P w ≤ pC P := by
    rw [g1, c4, nI_leI (by omega) (by omega)]; omega
  have no : ¬ (M (w + 17) 5 &&& (M 2 8 ^^^ (-1)) = 0 ∧ M (w + 17) 6 &&& M 2 9 = 0 ∧ M (w + 17) 3 ≤ M 2 10) → may P s e w = false := fun h => by
    cases hm : may P s e w
    · rfl
    · unfold may at hm
      rw [Bool.and_eq_true, okTo_iff, decide_eq_true_eq] at hm
      exact absurd ⟨A1.mpr (fun o ho => (hm.1 o ho).1), A2.mpr (fun o ho => (hm.1 o ho).2), A3.mpr hm.2⟩ h
  refine Mm_go hst (by decide) rfl (Nat.le_of_ble_eq_true rfl) [some (.ref 2), some (.ref (w + 17))] rfl ?_
  refine z_aload_n dX2_canBegin_0 rfl rfl ?_
  refine z_gi4 (j := 5) dX2_canBegin_1 (by decide) fl_X2_105 (by first | assumption | rfl | exact knd_w (by omega)) rfl rfl ?_
  refine z_aload_n dX2_canBegin_4 rfl rfl ?_
  refine z_gi2 (j := 8) dX2_canBegin_5 (by decide) fl_X2_71 rfl rfl rfl ?_
  refine z_iconst (v := (-1)) dX2_canBegin_8 (by decide) rfl ?_
  refine z_ixor dX2_canBegin_9 rfl ?_
  refine z_iand dX2_canBegin_10 rfl ?_
  refine z_if_ne (tgt := 41) dX2_canBegin_11 (by decide) rfl (fun h1 => ?_) (fun h1 => ?_)
  · rw [no (fun q => h1 q.1)]
    refine z_iconst (v := 0) dX2_canBegin_41 (by decide) rfl ?_
    exact z_zreturn dX2_canBegin_42 rfl rfl ⟨rfl, rfl⟩ (Nat.le_of_ble_eq_true rfl) (Nat.le_of_ble_eq_true rfl)
  · refine z_aload_n dX2_canBegin_14 rfl rfl ?_
    refine z_gi4 (j := 6) dX2_canBegin_15 (by decide) fl_X2_99 (by first | assumption | rfl | exact knd_w (by omega)) rfl rfl ?_
    refine z_aload_n dX2_canBegin_18 rfl rfl ?_
    refine z_gi2 (j := 9) dX2_canBegin_19 (by decide) fl_X2_74 rfl rfl rfl ?_
    refine z_iand dX2_canBegin_22 rfl ?_
    refine z_if_ne (tgt := 41) dX2_canBegin_23 (by decide) rfl (fun h2 => ?_) (fun h2 => ?_)
    · rw [no (fun q => h2 q.2.1)]
      refine z_iconst (v := 0) dX2_canBegin_41 (by decide) rfl ?_
      exact z_zreturn dX2_canBegin_42 rfl rfl ⟨rfl, rfl⟩ (Nat.le_of_ble_eq_true rfl) (Nat.le_of_ble_eq_true rfl)
    · refine z_aload_n dX2_canBegin_26 rfl rfl ?_
      refine z_gi4 (j := 3) dX2_canBegin_27 (by decide) fl_X2_102 (by first | assumption | rfl | exact knd_w (by omega)) rfl rfl ?_
      refine z_aload_n dX2_canBegin_30 rfl rfl ?_
      refine z_gi2 (j := 10) dX2_canBegin_31 (by decide) fl_X2_77 rfl rfl rfl ?_
      refine z_icmp_gt (tgt := 41) dX2_canBegin_34 (by decide) rfl (fun h3 => ?_) (fun h3 => ?_)
      · rw [no (fun q => i32_nle h3 q.2.2)]
        refine z_iconst (v := 0) dX2_canBegin_41 (by decide) rfl ?_
        exact z_zreturn dX2_canBegin_42 rfl rfl ⟨rfl, rfl⟩ (Nat.le_of_ble_eq_true rfl) (Nat.le_of_ble_eq_true rfl)
      · have hm : may P s e w = true := by
          unfold may
          rw [Bool.and_eq_true, okTo_iff, decide_eq_true_eq]
          exact ⟨fun o ho => ⟨A1.mp h1 o ho, A2.mp h2 o ho⟩, A3.mp (i32_le_of_nlt h3)⟩
        rw [hm]
        refine z_iconst (v := 1) dX2_canBegin_37 (by decide) rfl ?_
        refine z_goto (tgt := 42) dX2_canBegin_38 (by decide) ?_
        exact z_zreturn dX2_canBegin_42 rfl rfl ⟨rfl, rfl⟩ (Nat.le_of_ble_eq_true rfl) (Nat.le_of_ble_eq_true rfl)
set_option maxHeartbeats 4000000 in
theorem c_X2_isRunning {l : Launch} {E : EnT} (hst : l.stackTraces = false) (M : Mem) (P : Pb) (r w : Nat) (s : Sch) (e : Nat → Bool) (h16 : pN P ≤ 16) (hC : CR P M r s e) (hw : w < pN P) : Mm l E mX2_isRunning 0 0 0 [.ref 2, .int (nI w)] M (Rt (some (.int (bI (runs s e w)))) M) := by
  obtain ⟨c1, c2, -⟩ := hC
  have A : (M 2 7 &&& (M 2 8 ^^^ (-1)) &&& ((1 : Int32) <<< (nI w &&& 31)) = 0) ↔ runs s e w = false := by
    rw [b_eq0]
    constructor
    · intro h
      have := h w (by omega)
      rw [b_and, b_and, b_not _ (by omega), c1 w (by omega), c2 w (by omega), b_one w (by omega) w (by omega)] at this
      unfold runs
      simpa [hw] using this
    · intro h i hi
      rw [b_and, b_and, b_not _ hi, c1 i hi, c2 i hi, b_one w (by omega) i hi]
      by_cases hiw : i = w
      · subst hiw
        unfold runs at h
        cases h1 : (s i).isSome <;> cases h2 : e i <;> simp_all
      · simp [hiw]
  refine Mm_go hst (by decide) rfl (Nat.le_of_ble_eq_true rfl) [some (.ref 2), some (.int (nI w))] rfl ?_
  refine z_aload_n dX2_isRunning_0 rfl rfl ?_
  refine z_gi2 (j := 7) dX2_isRunning_1 (by decide) fl_X2_68 rfl rfl rfl ?_
  refine z_aload_n dX2_isRunning_4 rfl rfl ?_
  refine z_gi2 (j := 8) dX2_isRunning_5 (by decide) fl_X2_71 rfl rfl rfl ?_
  refine z_iconst (v := (-1)) dX2_isRunning_8 (by decide) rfl ?_
  refine z_ixor dX2_isRunning_9 rfl ?_
  refine z_iand dX2_isRunning_10 rfl ?_
  refine z_iconst (v := 1) dX2_isRunning_11 (by decide) rfl ?_
  refine z_iload_n dX2_isRunning_12 rfl rfl ?_
  refine z_ishl dX2_isRunning_13 rfl ?_
  refine z_iand dX2_isRunning_14 rfl ?_
  refine z_if_eq (tgt := 22) dX2_isRunning_15 (by decide) rfl (fun h1 => ?_) (fun h1 => ?_)
  · rw [A.mp h1]
    refine z_iconst (v := 0) dX2_isRunning_22 (by decide) rfl ?_
    exact z_zreturn dX2_isRunning_23 rfl rfl ⟨rfl, rfl⟩ (Nat.le_of_ble_eq_true rfl) (Nat.le_of_ble_eq_true rfl)
  · have : runs s e w = true := by
      cases h : runs s e w
      · exact absurd (A.mpr h) h1
      · rfl
    rw [this]
    refine z_iconst (v := 1) dX2_isRunning_18 (by decide) rfl ?_
    refine z_goto (tgt := 23) dX2_isRunning_19 (by decide) ?_
    exact z_zreturn dX2_isRunning_23 rfl rfl ⟨rfl, rfl⟩ (Nat.le_of_ble_eq_true rfl) (Nat.le_of_ble_eq_true rfl)
