def Rx (r : Option Value ⊕ String) (M' : Mem) : Option Value ⊕ String → Mem → Prop := fun r' N => r' = r ∧ N = M'
def xIA : String := "java/lang/IllegalArgumentException"
def xIS : String := "java/lang/IllegalStateException"
def xIO : String := "java/lang/IndexOutOfBoundsException"
/-- w is a place below n -/
def ixB (w : Int32) (n : Nat) : Bool := decide (0 ≤ w.toInt ∧ w.toInt < n)
theorem ixB_n {j n : Nat} (h : j < n) (hn : n < 2 ^ 31) : ixB (nI j) n = true := by
  unfold ixB; rw [nI_toInt (by omega)]; simp; omega
theorem ixB_neg {w : Int32} {n : Nat} (h : w < 0) : ixB w n = false := by
  rw [Int32.lt_iff_toInt_lt] at h
  unfold ixB
  simp at h ⊢; omega
theorem ixB_big {w : Int32} {n : Nat} (h : nI n ≤ w) (hn : n < 2 ^ 31) : ixB w n = false := by
  rw [Int32.le_iff_toInt_le, nI_toInt hn] at h
  unfold ixB
  simp; omega
theorem ixB_cases (w : Int32) {n : Nat} (hn : n < 2 ^ 31) : (ixB w n = false ∧ (w < 0 ∨ nI n ≤ w)) ∨ ∃ j, j < n ∧ w = nI j ∧ ixB w n = true := by
  rcases pk_ix w hn with h | h | ⟨j, h1, h2⟩
  · exact Or.inl ⟨ixB_neg h, Or.inl h⟩
  · exact Or.inl ⟨ixB_big h hn, Or.inr h⟩
  · exact Or.inr ⟨j, h1, h2, by rw [h2]; exact ixB_n h1 hn⟩
def bI (b : Bool) : Int32 := if b then 1 else 0
set_option maxHeartbeats 4000000 in
theorem c_X2_hasWork {l : Launch} {E : EnT} (hst : l.stackTraces = false) (w : Int32) (M : Mem) (n : Nat) (hn : M 2 3 = nI n) (h16 : n ≤ 16) : Mm l E mX2_hasWork 0 0 0 [.ref 2, .int w] M (Rt (some (.int (bI (ixB w n)))) M) := by
  refine Mm_go hst (by decide) rfl (Nat.le_of_ble_eq_true rfl) [some (.ref 2), some (.int w)] rfl ?_
  rcases ixB_cases w (n := n) (by omega) with ⟨hb, h⟩ | ⟨j, hj, rfl, hb⟩
  · rw [hb]
    refine z_iload_n dX2_hasWork_0 rfl rfl ?_
    refine z_if_lt (tgt := 16) dX2_hasWork_1 (by decide) rfl (fun h1 => ?_) (fun h1 => ?_)
    · refine z_iconst (v := 0) dX2_hasWork_16 (by decide) rfl ?_
      exact z_zreturn dX2_hasWork_17 rfl rfl ⟨rfl, rfl⟩ (Nat.le_of_ble_eq_true rfl) (Nat.le_of_ble_eq_true rfl)
    · refine z_iload_n dX2_hasWork_4 rfl rfl ?_
      refine z_aload_n dX2_hasWork_5 rfl rfl ?_
      refine z_gi2 (j := 3) dX2_hasWork_6 (by decide) fl_X2_27 rfl rfl rfl ?_
      refine z_icmp_ge (tgt := 16) dX2_hasWork_9 (by decide) rfl (fun h2 => ?_) (fun h2 => ?_)
      · refine z_iconst (v := 0) dX2_hasWork_16 (by decide) rfl ?_
        exact z_zreturn dX2_hasWork_17 rfl rfl ⟨rfl, rfl⟩ (Nat.le_of_ble_eq_true rfl) (Nat.le_of_ble_eq_true rfl)
      · exact absurd (h.resolve_left h1) (by rw [hn] at h2; exact h2)
  · rw [hb]
    refine z_iload_n dX2_hasWork_0 rfl rfl ?_
    refine z_if_lt (tgt := 16) dX2_hasWork_1 (by decide) rfl (fun h1 => ?_) (fun h1 => ?_)
    · exact absurd h1 (nI_pos (by omega))
    · refine z_iload_n dX2_hasWork_4 rfl rfl ?_
      refine z_aload_n dX2_hasWork_5 rfl rfl ?_
      refine z_gi2 (j := 3) dX2_hasWork_6 (by decide) fl_X2_27 rfl rfl rfl ?_
      refine z_icmp_ge (tgt := 16) dX2_hasWork_9 (by decide) rfl (fun h2 => ?_) (fun h2 => ?_)
      · exact absurd h2 (by rw [hn]; exact nI_ge hj (by omega))
      · refine z_iconst (v := 1) dX2_hasWork_12 (by decide) rfl ?_
        refine z_goto (tgt := 17) dX2_hasWork_13 (by decide) ?_
        exact z_zreturn dX2_hasWork_17 rfl rfl ⟨rfl, rfl⟩ (Nat.le_of_ble_eq_true rfl) (Nat.le_of_ble_eq_true rfl)
set_option maxHeartbeats 4000000 in
theorem c_X2_hasRow {l : Launch} {E : EnT} (hst : l.stackTraces = false) (w : Int32) (M : Mem) (n : Nat) (hn : M 2 4 = nI n) (h16 : n ≤ 20) : Mm l E mX2_hasRow 0 0 0 [.ref 2, .int w] M (Rt (some (.int (bI (ixB w (n + 2))))) M) := by
  refine Mm_go hst (by decide) rfl (Nat.le_of_ble_eq_true rfl) [some (.ref 2), some (.int w)] rfl ?_
  have hn2 : 2 + M 2 4 = nI (n + 2) := by rw [hn, show (2 : Int32) = nI 2 from rfl, nI_add, Nat.add_comm]
  rcases ixB_cases w (n := n + 2) (by omega) with ⟨hb, h⟩ | ⟨j, hj, rfl, hb⟩
  · rw [hb]
    refine z_iload_n dX2_hasRow_0 rfl rfl ?_
    refine z_if_lt (tgt := 18) dX2_hasRow_1 (by decide) rfl (fun h1 => ?_) (fun h1 => ?_)
    · refine z_iconst (v := 0) dX2_hasRow_18 (by decide) rfl ?_
      exact z_zreturn dX2_hasRow_19 rfl rfl ⟨rfl, rfl⟩ (Nat.le_of_ble_eq_true rfl) (Nat.le_of_ble_eq_true rfl)
    · refine z_iload_n dX2_hasRow_4 rfl rfl ?_
      refine z_iconst (v := 2) dX2_hasRow_5 (by decide) rfl ?_
      refine z_aload_n dX2_hasRow_6 rfl rfl ?_
      refine z_gi2 (j := 4) dX2_hasRow_7 (by decide) fl_X2_31 rfl rfl rfl ?_
      refine z_iadd dX2_hasRow_10 rfl ?_
      refine z_icmp_ge (tgt := 18) dX2_hasRow_11 (by decide) rfl (fun h2 => ?_) (fun h2 => ?_)
      · refine z_iconst (v := 0) dX2_hasRow_18 (by decide) rfl ?_
        exact z_zreturn dX2_hasRow_19 rfl rfl ⟨rfl, rfl⟩ (Nat.le_of_ble_eq_true rfl) (Nat.le_of_ble_eq_true rfl)
      · exact absurd (h.resolve_left h1) (by rw [hn2] at h2; exact h2)
  · rw [hb]
    refine z_iload_n dX2_hasRow_0 rfl rfl ?_
    refine z_if_lt (tgt := 18) dX2_hasRow_1 (by decide) rfl (fun h1 => ?_) (fun h1 => ?_)
    · exact absurd h1 (nI_pos (by omega))
    · refine z_iload_n dX2_hasRow_4 rfl rfl ?_
      refine z_iconst (v := 2) dX2_hasRow_5 (by decide) rfl ?_
      refine z_aload_n dX2_hasRow_6 rfl rfl ?_
      refine z_gi2 (j := 4) dX2_hasRow_7 (by decide) fl_X2_31 rfl rfl rfl ?_
      refine z_iadd dX2_hasRow_10 rfl ?_
      refine z_icmp_ge (tgt := 18) dX2_hasRow_11 (by decide) rfl (fun h2 => ?_) (fun h2 => ?_)
      · exact absurd h2 (by rw [hn2]; exact nI_ge hj (by omega))
      · refine z_iconst (v := 1) dX2_hasRow_14 (by decide) rfl ?_
        refine z_goto (tgt := 19) dX2_hasRow_15 (by decide) ?_
        exact z_zreturn dX2_hasRow_19 rfl rfl ⟨rfl, rfl⟩ (Nat.le_of_ble_eq_true rfl) (Nat.le_of_ble_eq_true rfl)
set_option maxHeartbeats 4000000 in
theorem c_X7_isWork {l : Launch} {E : EnT} (hst : l.stackTraces = false) (w : Int32) (M : Mem) (n : Nat) (hn : M 99 14 = nI n) (h16 : n ≤ 16) : Mm l E mX7_isWork 0 0 0 [.ref 99, .int w] M (Rt (some (.int (bI (ixB w n)))) M) := by
  refine Mm_go hst (by decide) rfl (Nat.le_of_ble_eq_true rfl) [some (.ref 99), some (.int w)] rfl ?_
  rcases ixB_cases w (n := n) (by omega) with ⟨hb, h⟩ | ⟨j, hj, rfl, hb⟩
  · rw [hb]
    refine z_iload_n dX7_isWork_0 rfl rfl ?_
    refine z_if_lt (tgt := 16) dX7_isWork_1 (by decide) rfl (fun h1 => ?_) (fun h1 => ?_)
    · refine z_iconst (v := 0) dX7_isWork_16 (by decide) rfl ?_
      exact z_zreturn dX7_isWork_17 rfl rfl ⟨rfl, rfl⟩ (Nat.le_of_ble_eq_true rfl) (Nat.le_of_ble_eq_true rfl)
    · refine z_iload_n dX7_isWork_4 rfl rfl ?_
      refine z_aload_n dX7_isWork_5 rfl rfl ?_
      refine z_gi7 (j := 14) dX7_isWork_6 (by decide) fl_X7_144 rfl rfl rfl ?_
      refine z_icmp_ge (tgt := 16) dX7_isWork_9 (by decide) rfl (fun h2 => ?_) (fun h2 => ?_)
      · refine z_iconst (v := 0) dX7_isWork_16 (by decide) rfl ?_
        exact z_zreturn dX7_isWork_17 rfl rfl ⟨rfl, rfl⟩ (Nat.le_of_ble_eq_true rfl) (Nat.le_of_ble_eq_true rfl)
      · exact absurd (h.resolve_left h1) (by rw [hn] at h2; exact h2)
  · rw [hb]
    refine z_iload_n dX7_isWork_0 rfl rfl ?_
    refine z_if_lt (tgt := 16) dX7_isWork_1 (by decide) rfl (fun h1 => ?_) (fun h1 => ?_)
    · exact absurd h1 (nI_pos (by omega))
    · refine z_iload_n dX7_isWork_4 rfl rfl ?_
      refine z_aload_n dX7_isWork_5 rfl rfl ?_
      refine z_gi7 (j := 14) dX7_isWork_6 (by decide) fl_X7_144 rfl rfl rfl ?_
      refine z_icmp_ge (tgt := 16) dX7_isWork_9 (by decide) rfl (fun h2 => ?_) (fun h2 => ?_)
      · exact absurd h2 (by rw [hn]; exact nI_ge hj (by omega))
      · refine z_iconst (v := 1) dX7_isWork_12 (by decide) rfl ?_
        refine z_goto (tgt := 17) dX7_isWork_13 (by decide) ?_
        exact z_zreturn dX7_isWork_17 rfl rfl ⟨rfl, rfl⟩ (Nat.le_of_ble_eq_true rfl) (Nat.le_of_ble_eq_true rfl)
set_option maxHeartbeats 4000000 in
theorem c_X7_isRow {l : Launch} {E : EnT} (hst : l.stackTraces = false) (w : Int32) (M : Mem) (n : Nat) (hn : M 99 20 = nI n) (h16 : n ≤ 20) : Mm l E mX7_isRow 0 0 0 [.ref 99, .int w] M (Rt (some (.int (bI (ixB w (n + 2))))) M) := by
  refine Mm_go hst (by decide) rfl (Nat.le_of_ble_eq_true rfl) [some (.ref 99), some (.int w)] rfl ?_
  have hn2 : M 99 20 + 2 = nI (n + 2) := by rw [hn, show (2 : Int32) = nI 2 from rfl, nI_add]
  rcases ixB_cases w (n := n + 2) (by omega) with ⟨hb, h⟩ | ⟨j, hj, rfl, hb⟩
  · rw [hb]
    refine z_iload_n dX7_isRow_0 rfl rfl ?_
    refine z_if_lt (tgt := 18) dX7_isRow_1 (by decide) rfl (fun h1 => ?_) (fun h1 => ?_)
    · refine z_iconst (v := 0) dX7_isRow_18 (by decide) rfl ?_
      exact z_zreturn dX7_isRow_19 rfl rfl ⟨rfl, rfl⟩ (Nat.le_of_ble_eq_true rfl) (Nat.le_of_ble_eq_true rfl)
    · refine z_iload_n dX7_isRow_4 rfl rfl ?_
      refine z_aload_n dX7_isRow_5 rfl rfl ?_
      refine z_gi7 (j := 20) dX7_isRow_6 (by decide) fl_X7_161 rfl rfl rfl ?_
      refine z_iconst (v := 2) dX7_isRow_9 (by decide) rfl ?_
      refine z_iadd dX7_isRow_10 rfl ?_
      refine z_icmp_ge (tgt := 18) dX7_isRow_11 (by decide) rfl (fun h2 => ?_) (fun h2 => ?_)
      · refine z_iconst (v := 0) dX7_isRow_18 (by decide) rfl ?_
        exact z_zreturn dX7_isRow_19 rfl rfl ⟨rfl, rfl⟩ (Nat.le_of_ble_eq_true rfl) (Nat.le_of_ble_eq_true rfl)
      · exact absurd (h.resolve_left h1) (by rw [hn2] at h2; exact h2)
  · rw [hb]
    refine z_iload_n dX7_isRow_0 rfl rfl ?_
    refine z_if_lt (tgt := 18) dX7_isRow_1 (by decide) rfl (fun h1 => ?_) (fun h1 => ?_)
    · exact absurd h1 (nI_pos (by omega))
    · refine z_iload_n dX7_isRow_4 rfl rfl ?_
      refine z_aload_n dX7_isRow_5 rfl rfl ?_
      refine z_gi7 (j := 20) dX7_isRow_6 (by decide) fl_X7_161 rfl rfl rfl ?_
      refine z_iconst (v := 2) dX7_isRow_9 (by decide) rfl ?_
      refine z_iadd dX7_isRow_10 rfl ?_
      refine z_icmp_ge (tgt := 18) dX7_isRow_11 (by decide) rfl (fun h2 => ?_) (fun h2 => ?_)
      · exact absurd h2 (by rw [hn2]; exact nI_ge hj (by omega))
      · refine z_iconst (v := 1) dX7_isRow_14 (by decide) rfl ?_
        refine z_goto (tgt := 19) dX7_isRow_15 (by decide) ?_
        exact z_zreturn dX7_isRow_19 rfl rfl ⟨rfl, rfl⟩ (Nat.le_of_ble_eq_true rfl) (Nat.le_of_ble_eq_true rfl)
set_option maxHeartbeats 4000000 in
theorem c_X6_fault {l : Launch} {E : EnT} (hst : l.stackTraces = false) (M : Mem) : Mm l E mX6_fault 0 0 0 [.ref 0] M (Rt (some (.int (M 1 2))) M) := by
  refine Mm_go hst (by decide) rfl (Nat.le_of_ble_eq_true rfl) [some (.ref 0)] rfl ?_
  refine z_aload_n dX6_fault_0 rfl rfl ?_
  refine z_gr6 (j := 0) dX6_fault_1 (by decide) fl_X6_10 rfl rfl rfl ?_
  refine z_gi3 (j := 2) dX6_fault_4 (by decide) fl_X6_82 rfl rfl rfl ?_
  exact z_ireturn dX6_fault_7 rfl ⟨rfl, rfl⟩ (Nat.le_of_ble_eq_true rfl) (Nat.le_of_ble_eq_true rfl)
set_option maxHeartbeats 4000000 in
theorem c_X7_fault {l : Launch} {E : EnT} (hst : l.stackTraces = false) (M : Mem) : Mm l E mX7_fault 0 0 0 [.ref 99] M (Rt (some (.int (M 99 6))) (mu M 99 0 0)) := by
  refine Mm_go hst (by decide) rfl (Nat.le_of_ble_eq_true rfl) [some (.ref 99)] rfl ?_
  refine z_aload_n dX7_fault_0 rfl rfl ?_
  refine z_iconst (v := 0) dX7_fault_1 (by decide) rfl ?_
  refine z_pi7 (j := 0) dX7_fault_2 (by decide) fl_X7_79 rfl rfl rfl rfl rfl ?_
  refine z_aload_n dX7_fault_5 rfl rfl ?_
  refine z_gi7 (j := 6) dX7_fault_6 (by decide) fl_X7_13 rfl rfl rfl ?_
  exact z_ireturn dX7_fault_9 rfl ⟨rfl, rfl⟩ (Nat.le_of_ble_eq_true rfl) (Nat.le_of_ble_eq_true rfl)
set_option maxHeartbeats 4000000 in
theorem c_X6_ends {l : Launch} {E : EnT} (hst : l.stackTraces = false) (M : Mem) : Mm l E mX6_ends 0 0 0 [.ref 0] M (Rt (some (.int (M 4 1))) M) := by
  refine Mm_go hst (by decide) rfl (Nat.le_of_ble_eq_true rfl) [some (.ref 0)] rfl ?_
  refine z_aload_n dX6_ends_0 rfl rfl ?_
  refine z_gr6 (j := 3) dX6_ends_1 (by decide) fl_X6_33 rfl rfl rfl ?_
  refine z_gi5 (j := 1) dX6_ends_4 (by decide) fl_X6_207 rfl rfl rfl ?_
  exact z_ireturn dX6_ends_7 rfl ⟨rfl, rfl⟩ (Nat.le_of_ble_eq_true rfl) (Nat.le_of_ble_eq_true rfl)
set_option maxHeartbeats 4000000 in
theorem c_X6_leave {l : Launch} {E : EnT} (hst : l.stackTraces = false) (M : Mem) : Mm l E mX6_leave 1 0 0 [.ref 0] M (Rt (some (.int (M 4 0))) (mu (mu M 4 0 0) 4 1 0)) := by
  refine Mm_go hst (by decide) rfl (Nat.le_of_ble_eq_true rfl) [some (.ref 0), none] rfl ?_
  refine z_aload_n dX6_leave_0 rfl rfl ?_
  refine z_gr6 (j := 3) dX6_leave_1 (by decide) fl_X6_33 rfl rfl rfl ?_
  refine z_gi5 (j := 0) dX6_leave_4 (by decide) fl_X6_198 rfl rfl rfl ?_
  refine z_ist1 dX6_leave_7 (Nat.le_of_ble_eq_true rfl) rfl ?_
  refine z_aload_n dX6_leave_8 rfl rfl ?_
  refine z_gr6 (j := 3) dX6_leave_9 (by decide) fl_X6_33 rfl rfl rfl ?_
  refine z_cn0 (ci := 5) (nf := 5) (y := mX5_clear) dX6_leave_12 ml_X6_210 iv_X5_clear (Nat.le_of_ble_eq_true rfl) rfl (by decide) rfl (Nat.le_of_ble_eq_true rfl) (Nat.le_of_ble_eq_true rfl) (Nat.le_of_ble_eq_true rfl) (c_X5_clear hst M) rfl ?_
  refine z_iload_n dX6_leave_15 rfl rfl ?_
  exact z_ireturn dX6_leave_16 rfl ⟨rfl, rfl⟩ (Nat.le_of_ble_eq_true rfl) (Nat.le_of_ble_eq_true rfl)
set_option maxHeartbeats 4000000 in
theorem c_X6_out {l : Launch} {E : EnT} (hst : l.stackTraces = false) (n : Int32) (M : Mem) (T : Nat) (hT : M 4 0 = nI T) (hT30 : T ≤ 30) : Mm l E mX6_out 2 0 0 [.ref 0, .int n] M (Rt (some (.int (ogN (M 15) (outN (M 14) T n T)))) M) := by
  refine Mm_go hst (by decide) rfl (Nat.le_of_ble_eq_true rfl) [some (.ref 0), some (.int n)] rfl ?_
  refine z_aload_n dX6_out_0 rfl rfl ?_
  refine z_gr6 (j := 3) dX6_out_1 (by decide) fl_X6_33 rfl rfl rfl ?_
  refine z_iload_n dX6_out_4 rfl rfl ?_
  refine z_cv1 (ci := 5) (nf := 5) (y := mX5_deadEndOf) dX6_out_5 ml_X6_213 iv_X5_deadEndOf (Nat.le_of_ble_eq_true rfl) rfl (by decide) rfl (Nat.le_of_ble_eq_true rfl) (Nat.le_of_ble_eq_true rfl) (Nat.le_of_ble_eq_true rfl) (c_X5_deadEndOf hst n M T hT hT30) rfl ?_
  exact z_ireturn dX6_out_8 rfl ⟨rfl, rfl⟩ (Nat.le_of_ble_eq_true rfl) (Nat.le_of_ble_eq_true rfl)
/-- the class's train: what it does -/
def trC (M : Mem) (n : Int32) (T D : Nat) : (Option Value ⊕ String) × Mem :=
  if n < 0 ∨ 1000 < n then (.inr xIA, M)
  else if T = 30 then (.inl (some (.int (-1))), M)
  else if hsN (M 14) n T then (.inl (some (.int (-2))), M)
  else (.inl (some (.int (nI ((pfN (M 16) n D).getD D)))), tkM M 4 0 1 14 15 16 n T D)
set_option maxHeartbeats 4000000 in
theorem c_X6_train {l : Launch} {E : EnT} (hst : l.stackTraces = false) (n : Int32) (M : Mem) (T D : Nat) (hT : M 4 0 = nI T) (hD : M 4 1 = nI D) (hT30 : T ≤ 30) (hDT : D ≤ T) : Mm l E mX6_train 6 1 6 [.ref 0, .int n] M (Rx (trC M n T D).1 (trC M n T D).2) := by
  refine Mm_go hst (by decide) rfl (Nat.le_of_ble_eq_true rfl) [some (.ref 0), some (.int n)] rfl ?_
  refine z_iload_n dX6_train_0 rfl rfl ?_
  refine z_if_lt (tgt := 11) dX6_train_1 (by decide) rfl (fun h1 => ?_) (fun h1 => ?_)
  · have hb : n < 0 ∨ 1000 < n := Or.inl h1
    exact z_throw (i := 16) rfl (Nat.le_of_ble_eq_true rfl) xok_IA (List.mem_of_getElem? (i := 24) rfl) dX6_train_11 dX6_train_14 dX6_train_15 dX6_train_17 dX6_train_20 rfl rfl ⟨by simp [trC, hb]; rfl, by simp [trC, hb]⟩
  · refine z_iload_n dX6_train_4 rfl rfl ?_
    refine z_sipush (v := 1000) dX6_train_5 (by decide) rfl ?_
    refine z_icmp_le (tgt := 21) dX6_train_8 (by decide) rfl (fun h2 => ?_) (fun h2 => ?_)
    · have hnb : ¬ (n < 0 ∨ 1000 < n) := fun q => q.elim h1 (fun q => by rw [Int32.lt_iff_toInt_lt] at q; rw [Int32.le_iff_toInt_le] at h2; omega)
      refine z_aload_n dX6_train_21 rfl rfl ?_
      refine z_gr6 (j := 3) dX6_train_22 (by decide) fl_X6_33 rfl rfl rfl ?_
      refine z_gi5 (j := 0) dX6_train_25 (by decide) fl_X6_198 rfl rfl rfl ?_
      refine z_bipush (v := 30) dX6_train_28 (by decide) rfl ?_
      refine z_icmp_lt (tgt := 35) dX6_train_30 (by decide) rfl (fun h3 => ?_) (fun h3 => ?_)
      · have hT30' : T ≠ 30 := fun q => by rw [hT, q] at h3; exact absurd h3 (by decide)
        have hT29 : T < 30 := by omega
        refine z_aload_n dX6_train_35 rfl rfl ?_
        refine z_gr6 (j := 3) dX6_train_36 (by decide) fl_X6_33 rfl rfl rfl ?_
        refine z_iload_n dX6_train_39 rfl rfl ?_
        refine z_cv1 (ci := 5) (nf := 5) (y := mX5_has) dX6_train_40 ml_X6_201 iv_X5_has (Nat.le_of_ble_eq_true rfl) rfl (by decide) rfl (Nat.le_of_ble_eq_true rfl) (Nat.le_of_ble_eq_true rfl) (Nat.le_of_ble_eq_true rfl) (c_X5_has hst n M T hT hT30) rfl ?_
        cases hh : hsN (M 14) n T with
        | true =>
          refine z_if_eq (tgt := 51) dX6_train_43 (by decide) rfl (fun h4 => ?_) (fun h4 => ?_)
          · exact absurd h4 (by decide)
          · refine z_bipush (v := (-2)) dX6_train_46 (by decide) rfl ?_
            refine z_goto (tgt := 59) dX6_train_48 (by decide) ?_
            exact z_ireturn dX6_train_59 rfl ⟨by simp [trC, hnb, hT30', hh], by simp [trC, hnb, hT30', hh]⟩ (Nat.le_of_ble_eq_true rfl) (Nat.le_of_ble_eq_true rfl)
        | false =>
          refine z_if_eq (tgt := 51) dX6_train_43 (by decide) rfl (fun h4 => ?_) (fun h4 => ?_)
          · refine z_aload_n dX6_train_51 rfl rfl ?_
            refine z_gr6 (j := 3) dX6_train_52 (by decide) fl_X6_33 rfl rfl rfl ?_
            refine z_iload_n dX6_train_55 rfl rfl ?_
            refine z_cv1 (ci := 5) (nf := 5) (y := mX5_take) dX6_train_56 ml_X6_204 iv_X5_take (Nat.le_of_ble_eq_true rfl) rfl (by decide) rfl (Nat.le_of_ble_eq_true rfl) (Nat.le_of_ble_eq_true rfl) (Nat.le_of_ble_eq_true rfl) (c_X5_take hst n M T D hT hD hT29 hDT) rfl ?_
            exact z_ireturn dX6_train_59 rfl ⟨by simp [trC, hnb, hT30', hh], by simp [trC, hnb, hT30', hh]⟩ (Nat.le_of_ble_eq_true rfl) (Nat.le_of_ble_eq_true rfl)
          · exact absurd rfl h4
      · have hT30' : T = 30 := by
          rw [hT] at h3
          have := nlt_nn (a := T) (b := 30) h3 (by omega) (by decide)
          omega
        refine z_iconst (v := (-1)) dX6_train_33 (by decide) rfl ?_
        exact z_ireturn dX6_train_34 rfl ⟨by simp [trC, hnb, hT30'], by simp [trC, hnb, hT30']⟩ (Nat.le_of_ble_eq_true rfl) (Nat.le_of_ble_eq_true rfl)
    · have hb : n < 0 ∨ 1000 < n := Or.inr (by rw [Int32.lt_iff_toInt_lt]; rw [Int32.le_iff_toInt_le] at h2; omega)
      exact z_throw (i := 16) rfl (Nat.le_of_ble_eq_true rfl) xok_IA (List.mem_of_getElem? (i := 24) rfl) dX6_train_11 dX6_train_14 dX6_train_15 dX6_train_17 dX6_train_20 rfl rfl ⟨by simp [trC, hb]; rfl, by simp [trC, hb]⟩
