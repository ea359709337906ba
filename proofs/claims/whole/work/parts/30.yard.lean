/-! Yard: trains -/
def hsN (f : Nat → Int32) (n : Int32) : Nat → Bool
  | 0 => false
  | t + 1 => hsN f n t || decide (f t = n)
theorem hsN_mono {f : Nat → Int32} {n : Int32} {a : Nat} (h : hsN f n a = true) : ∀ {b : Nat}, a ≤ b → hsN f n b = true
  | 0, hb => by have : a = 0 := by omega
                subst this; exact h
  | b + 1, hb => by
    rcases Nat.lt_or_ge a (b + 1) with q | q
    · simp [hsN, hsN_mono h (show a ≤ b by omega)]
    · have : a = b + 1 := by omega
      subst this; exact h
set_option maxHeartbeats 4000000 in
theorem c_X5_has {l : Launch} {E : EnT} (hst : l.stackTraces = false) (n : Int32) (M : Mem) (T : Nat) (hT : M 4 0 = nI T) (hT30 : T ≤ 30) : Mm l E mX5_has 0 0 0 [.ref 4, .int n] M (Rt (some (.int (if hsN (M 14) n T then 1 else 0))) M) := by
  refine Mm_go hst (by decide) rfl (Nat.le_of_ble_eq_true rfl) [some (.ref 4), some (.int n), none] rfl ?_
  refine z_iconst (v := 0) dX5_has_0 (by decide) rfl ?_
  refine z_ist2 dX5_has_1 (Nat.le_of_ble_eq_true rfl) rfl ?_
  have loop : ∀ (k j : Nat), j + k = T → hsN (M 14) n j = false → Zz (zx l E mX5_has 0 (Rt (some (.int (if hsN (M 14) n T then 1 else 0))) M)) 0 0 2 [some (.ref 4), some (.int n), some (.int (nI j))] [] M := by
    intro k
    induction k with
    | zero =>
      intro j hj hh
      have e : j = T := by omega
      subst e
      refine z_iload_n dX5_has_2 rfl rfl ?_
      refine z_aload_n dX5_has_3 rfl rfl ?_
      refine z_gi5 (j := 0) dX5_has_4 (by decide) fl_X5_9 rfl rfl rfl ?_
      refine z_icmp_ge (tgt := 28) dX5_has_7 (by decide) rfl (fun hc => ?_) (fun hc => ?_)
      · refine z_iconst (v := 0) dX5_has_28 (by decide) rfl ?_
        exact z_zreturn dX5_has_29 rfl rfl ⟨by rw [hh]; rfl, rfl⟩ (Nat.le_of_ble_eq_true rfl) (Nat.le_of_ble_eq_true rfl)
      · exact absurd (by rw [hT]; exact nI_le (Nat.le_refl _) (by omega)) hc
    | succ k ih =>
      intro j hj hh
      refine z_iload_n dX5_has_2 rfl rfl ?_
      refine z_aload_n dX5_has_3 rfl rfl ?_
      refine z_gi5 (j := 0) dX5_has_4 (by decide) fl_X5_9 rfl rfl rfl ?_
      refine z_icmp_ge (tgt := 28) dX5_has_7 (by decide) rfl (fun hc => ?_) (fun hc => ?_)
      · exact absurd hc (by rw [hT]; exact nI_ge (by omega) (by omega))
      · refine z_aload_n dX5_has_10 rfl rfl ?_
        refine z_gr5 (j := 2) dX5_has_11 (by decide) fl_X5_18 rfl rfl rfl ?_
        refine z_iload_n dX5_has_14 rfl rfl ?_
        refine z_iald dX5_has_15 (by first | rfl | exact knd_h (by omega) | exact knd_s (by omega)) rfl (by omega) (by decide) rfl ?_
        refine z_iload_n dX5_has_16 rfl rfl ?_
        refine z_icmp_ne (tgt := 22) dX5_has_17 (by decide) rfl (fun hd => ?_) (fun hd => ?_)
        · first | refine z_iu2 dX5_has_22 (Nat.le_of_ble_eq_true rfl) rfl ?_ | refine z_inc2 dX5_has_22 (Nat.le_of_ble_eq_true rfl) rfl rfl ?_
          refine z_goto (tgt := 2) dX5_has_25 (by decide) ?_
          exact ih (j + 1) (by omega) (by simp [hsN, hh, hd])
        · have h1 : hsN (M 14) n (j + 1) = true := by simp [hsN, hd]
          refine z_iconst (v := 1) dX5_has_20 (by decide) rfl ?_
          exact z_zreturn dX5_has_21 rfl rfl ⟨by rw [hsN_mono h1 (by omega)]; rfl, rfl⟩ (Nat.le_of_ble_eq_true rfl) (Nat.le_of_ble_eq_true rfl)
  exact loop T 0 (by omega) rfl
/-- the dead end for n among the first e: that one of those whose foremost is greater whose foremost is least -/
def pfN (f : Nat → Int32) (n : Int32) : Nat → Option Nat
  | 0 => none
  | e + 1 => if f e ≤ n then pfN f n e else match pfN f n e with
    | none => some e
    | some c => if f c ≤ f e then some c else some e
theorem pfN_lt {f : Nat → Int32} {n : Int32} : ∀ {e c : Nat}, pfN f n e = some c → c < e
  | 0, c, h => nomatch h
  | e + 1, c, h => by
    unfold pfN at h
    split at h
    · exact Nat.lt_succ_of_lt (pfN_lt h)
    · cases hp : pfN f n e with
      | none => rw [hp] at h; simp only [Option.some.injEq] at h; omega
      | some c2 =>
        rw [hp] at h
        have := pfN_lt hp
        simp only at h
        split at h <;> (simp only [Option.some.injEq] at h; omega)
def peN (z : Int32) : Option Nat → Int32
  | none => z
  | some c => nI c
set_option maxHeartbeats 4000000 in
theorem c_X5_placeFor {l : Launch} {E : EnT} (hst : l.stackTraces = false) (n : Int32) (M : Mem) (D : Nat) (hD : M 4 1 = nI D) (hD30 : D ≤ 30) : Mm l E mX5_placeFor 0 0 0 [.ref 4, .int n] M (Rt (some (.int (peN (-1) (pfN (M 16) n D)))) M) := by
  refine Mm_go hst (by decide) rfl (Nat.le_of_ble_eq_true rfl) [some (.ref 4), some (.int n), none, none] rfl ?_
  refine z_iconst (v := (-1)) dX5_placeFor_0 (by decide) rfl ?_
  refine z_ist2 dX5_placeFor_1 (Nat.le_of_ble_eq_true rfl) rfl ?_
  refine z_iconst (v := 0) dX5_placeFor_2 (by decide) rfl ?_
  refine z_ist3 dX5_placeFor_3 (Nat.le_of_ble_eq_true rfl) rfl ?_
  have loop : ∀ (k j : Nat), j + k = D → Zz (zx l E mX5_placeFor 0 (Rt (some (.int (peN (-1) (pfN (M 16) n D)))) M)) 0 0 4 [some (.ref 4), some (.int n), some (.int (peN (-1) (pfN (M 16) n j))), some (.int (nI j))] [] M := by
    intro k
    induction k with
    | zero =>
      intro j hj
      have e : j = D := by omega
      subst e
      refine z_iload_n dX5_placeFor_4 rfl rfl ?_
      refine z_aload_n dX5_placeFor_5 rfl rfl ?_
      refine z_gi5 (j := 1) dX5_placeFor_6 (by decide) fl_X5_15 rfl rfl rfl ?_
      refine z_icmp_ge (tgt := 50) dX5_placeFor_9 (by decide) rfl (fun hc => ?_) (fun hc => ?_)
      · refine z_iload_n dX5_placeFor_50 rfl rfl ?_
        exact z_ireturn dX5_placeFor_51 rfl ⟨rfl, rfl⟩ (Nat.le_of_ble_eq_true rfl) (Nat.le_of_ble_eq_true rfl)
      · exact absurd (by rw [hD]; exact nI_le (Nat.le_refl _) (by omega)) hc
    | succ k ih =>
      intro j hj
      have ih1 := ih (j + 1) (by omega)
      refine z_iload_n dX5_placeFor_4 rfl rfl ?_
      refine z_aload_n dX5_placeFor_5 rfl rfl ?_
      refine z_gi5 (j := 1) dX5_placeFor_6 (by decide) fl_X5_15 rfl rfl rfl ?_
      refine z_icmp_ge (tgt := 50) dX5_placeFor_9 (by decide) rfl (fun hc => ?_) (fun hc => ?_)
      · exact absurd hc (by rw [hD]; exact nI_ge (by omega) (by omega))
      · refine z_aload_n dX5_placeFor_12 rfl rfl ?_
        refine z_gr5 (j := 4) dX5_placeFor_13 (by decide) fl_X5_25 rfl rfl rfl ?_
        refine z_iload_n dX5_placeFor_16 rfl rfl ?_
        refine z_iald dX5_placeFor_17 (by first | rfl | exact knd_h (by omega) | exact knd_s (by omega)) rfl (by omega) (by decide) rfl ?_
        refine z_iload_n dX5_placeFor_18 rfl rfl ?_
        refine z_icmp_le (tgt := 44) dX5_placeFor_19 (by decide) rfl (fun hd => ?_) (fun hd => ?_)
        · first | refine z_iu3 dX5_placeFor_44 (Nat.le_of_ble_eq_true rfl) rfl ?_ | refine z_inc3 dX5_placeFor_44 (Nat.le_of_ble_eq_true rfl) rfl rfl ?_
          refine z_goto (tgt := 4) dX5_placeFor_47 (by decide) ?_
          rw [show pfN (M 16) n (j + 1) = pfN (M 16) n j from by simp [pfN, hd]] at ih1
          exact ih1
        · cases hp : pfN (M 16) n j with
          | none =>
            refine z_iload_n dX5_placeFor_22 rfl rfl ?_
            refine z_iconst (v := (-1)) dX5_placeFor_23 (by decide) rfl ?_
            refine z_icmp_eq (tgt := 42) dX5_placeFor_24 (by decide) rfl (fun he => ?_) (fun he => ?_)
            · refine z_iload_n dX5_placeFor_42 rfl rfl ?_
              refine z_ist2 dX5_placeFor_43 (Nat.le_of_ble_eq_true rfl) rfl ?_
              first | refine z_iu3 dX5_placeFor_44 (Nat.le_of_ble_eq_true rfl) rfl ?_ | refine z_inc3 dX5_placeFor_44 (Nat.le_of_ble_eq_true rfl) rfl rfl ?_
              refine z_goto (tgt := 4) dX5_placeFor_47 (by decide) ?_
              rw [show pfN (M 16) n (j + 1) = some j from by simp [pfN, hd, hp]] at ih1
              exact ih1
            · exact absurd rfl he
          | some c =>
            have hcj := pfN_lt hp
            refine z_iload_n dX5_placeFor_22 rfl rfl ?_
            refine z_iconst (v := (-1)) dX5_placeFor_23 (by decide) rfl ?_
            refine z_icmp_eq (tgt := 42) dX5_placeFor_24 (by decide) rfl (fun he => ?_) (fun he => ?_)
            · exact absurd he (nI_nm1 (by omega))
            · refine z_aload_n dX5_placeFor_27 rfl rfl ?_
              refine z_gr5 (j := 4) dX5_placeFor_28 (by decide) fl_X5_25 rfl rfl rfl ?_
              refine z_iload_n dX5_placeFor_31 rfl rfl ?_
              refine z_iald dX5_placeFor_32 (by first | rfl | exact knd_h (by omega) | exact knd_s (by omega)) rfl (by omega) (by decide) rfl ?_
              refine z_aload_n dX5_placeFor_33 rfl rfl ?_
              refine z_gr5 (j := 4) dX5_placeFor_34 (by decide) fl_X5_25 rfl rfl rfl ?_
              refine z_iload_n dX5_placeFor_37 rfl rfl ?_
              refine z_iald dX5_placeFor_38 (by first | rfl | exact knd_h (by omega) | exact knd_s (by omega)) rfl (by omega) (by decide) rfl ?_
              refine z_icmp_ge (tgt := 44) dX5_placeFor_39 (by decide) rfl (fun hf => ?_) (fun hf => ?_)
              · first | refine z_iu3 dX5_placeFor_44 (Nat.le_of_ble_eq_true rfl) rfl ?_ | refine z_inc3 dX5_placeFor_44 (Nat.le_of_ble_eq_true rfl) rfl rfl ?_
                refine z_goto (tgt := 4) dX5_placeFor_47 (by decide) ?_
                rw [show pfN (M 16) n (j + 1) = some c from by simp [pfN, hd, hp, hf]] at ih1
                exact ih1
              · refine z_iload_n dX5_placeFor_42 rfl rfl ?_
                refine z_ist2 dX5_placeFor_43 (Nat.le_of_ble_eq_true rfl) rfl ?_
                first | refine z_iu3 dX5_placeFor_44 (Nat.le_of_ble_eq_true rfl) rfl ?_ | refine z_inc3 dX5_placeFor_44 (Nat.le_of_ble_eq_true rfl) rfl rfl ?_
                refine z_goto (tgt := 4) dX5_placeFor_47 (by decide) ?_
                rw [show pfN (M 16) n (j + 1) = some j from by simp [pfN, hd, hp, hf]] at ih1
                exact ih1
  exact loop D 0 (by omega)
def ctN (f : Nat → Int32) (x : Int32) : Nat → Nat
  | 0 => 0
  | o + 1 => if x ≤ f o then ctN f x o else ctN f x o + 1
theorem ctN_le {f : Nat → Int32} {x : Int32} : ∀ {n : Nat}, ctN f x n ≤ n
  | 0 => Nat.le_refl 0
  | n + 1 => by
    have := @ctN_le f x n
    unfold ctN
    split <;> omega
/-- the first t below T at which ctN is k -/
def outN (f : Nat → Int32) (T : Nat) (k : Int32) : Nat → Option Nat
  | 0 => none
  | t + 1 => match outN f T k t with
    | some s => some s
    | none => if nI (ctN f (f t) T) = k then some t else none
theorem outN_mono {f : Nat → Int32} {T : Nat} {k : Int32} {s a : Nat} (h : outN f T k a = some s) : ∀ {b : Nat}, a ≤ b → outN f T k b = some s
  | 0, hb => by have e : a = 0 := by omega
                subst e; exact h
  | b + 1, hb => by
    rcases Nat.lt_or_ge a (b + 1) with q | q
    · simp [outN, outN_mono h (show a ≤ b by omega)]
    · have e : a = b + 1 := by omega
      subst e; exact h
theorem outN_lt {f : Nat → Int32} {T : Nat} {k : Int32} {s : Nat} : ∀ {a : Nat}, outN f T k a = some s → s < a
  | 0, h => nomatch h
  | a + 1, h => by
    unfold outN at h
    cases hp : outN f T k a with
    | some u => rw [hp] at h; simp only [Option.some.injEq] at h; have := outN_lt hp; omega
    | none =>
      rw [hp] at h
      simp only at h
      split at h
      · simp only [Option.some.injEq] at h; omega
      · cases h
def ogN (g : Nat → Int32) : Option Nat → Int32
  | none => -1
  | some t => g t
set_option maxHeartbeats 4000000 in
theorem c_X5_trainsAheadOf {l : Launch} {E : EnT} (hst : l.stackTraces = false) (n : Int32) (M : Mem) (T : Nat) (hT : M 4 0 = nI T) (hT30 : T ≤ 30) : Mm l E mX5_trainsAheadOf 0 0 0 [.ref 4, .int n] M (Rt (some (.int (nI (ctN (M 14) n T)))) M) := by
  refine Mm_go hst (by decide) rfl (Nat.le_of_ble_eq_true rfl) [some (.ref 4), some (.int n), none, none] rfl ?_
  refine z_iconst (v := 0) dX5_trainsAheadOf_0 (by decide) rfl ?_
  refine z_ist2 dX5_trainsAheadOf_1 (Nat.le_of_ble_eq_true rfl) rfl ?_
  refine z_iconst (v := 0) dX5_trainsAheadOf_2 (by decide) rfl ?_
  refine z_ist3 dX5_trainsAheadOf_3 (Nat.le_of_ble_eq_true rfl) rfl ?_
  have loop : ∀ (k j : Nat), j + k = T → Zz (zx l E mX5_trainsAheadOf 0 (Rt (some (.int (nI (ctN (M 14) n T)))) M)) 0 0 4 [some (.ref 4), some (.int n), some (.int (nI (ctN (M 14) n j))), some (.int (nI j))] [] M := by
    intro k
    induction k with
    | zero =>
      intro j hj
      have e : j = T := by omega
      subst e
      refine z_iload_n dX5_trainsAheadOf_4 rfl rfl ?_
      refine z_aload_n dX5_trainsAheadOf_5 rfl rfl ?_
      refine z_gi5 (j := 0) dX5_trainsAheadOf_6 (by decide) fl_X5_9 rfl rfl rfl ?_
      refine z_icmp_ge (tgt := 31) dX5_trainsAheadOf_9 (by decide) rfl (fun hc => ?_) (fun hc => ?_)
      · refine z_iload_n dX5_trainsAheadOf_31 rfl rfl ?_
        exact z_ireturn dX5_trainsAheadOf_32 rfl ⟨rfl, rfl⟩ (Nat.le_of_ble_eq_true rfl) (Nat.le_of_ble_eq_true rfl)
      · exact absurd (by rw [hT]; exact nI_le (Nat.le_refl _) (by omega)) hc
    | succ k ih =>
      intro j hj
      have ih1 := ih (j + 1) (by omega)
      refine z_iload_n dX5_trainsAheadOf_4 rfl rfl ?_
      refine z_aload_n dX5_trainsAheadOf_5 rfl rfl ?_
      refine z_gi5 (j := 0) dX5_trainsAheadOf_6 (by decide) fl_X5_9 rfl rfl rfl ?_
      refine z_icmp_ge (tgt := 31) dX5_trainsAheadOf_9 (by decide) rfl (fun hc => ?_) (fun hc => ?_)
      · exact absurd hc (by rw [hT]; exact nI_ge (by omega) (by omega))
      · refine z_aload_n dX5_trainsAheadOf_12 rfl rfl ?_
        refine z_gr5 (j := 2) dX5_trainsAheadOf_13 (by decide) fl_X5_18 rfl rfl rfl ?_
        refine z_iload_n dX5_trainsAheadOf_16 rfl rfl ?_
        refine z_iald dX5_trainsAheadOf_17 (by first | rfl | exact knd_h (by omega) | exact knd_s (by omega)) rfl (by omega) (by decide) rfl ?_
        refine z_iload_n dX5_trainsAheadOf_18 rfl rfl ?_
        refine z_icmp_ge (tgt := 25) dX5_trainsAheadOf_19 (by decide) rfl (fun hd => ?_) (fun hd => ?_)
        · first | refine z_iu3 dX5_trainsAheadOf_25 (Nat.le_of_ble_eq_true rfl) rfl ?_ | refine z_inc3 dX5_trainsAheadOf_25 (Nat.le_of_ble_eq_true rfl) rfl rfl ?_
          refine z_goto (tgt := 4) dX5_trainsAheadOf_28 (by decide) ?_
          rw [show ctN (M 14) n (j + 1) = ctN (M 14) n j from by simp [ctN, hd]] at ih1
          exact ih1
        · first | refine z_iu2 dX5_trainsAheadOf_22 (Nat.le_of_ble_eq_true rfl) rfl ?_ | refine z_inc2 dX5_trainsAheadOf_22 (Nat.le_of_ble_eq_true rfl) rfl rfl ?_
          first | refine z_iu3 dX5_trainsAheadOf_25 (Nat.le_of_ble_eq_true rfl) rfl ?_ | refine z_inc3 dX5_trainsAheadOf_25 (Nat.le_of_ble_eq_true rfl) rfl rfl ?_
          refine z_goto (tgt := 4) dX5_trainsAheadOf_28 (by decide) ?_
          rw [show ctN (M 14) n (j + 1) = ctN (M 14) n j + 1 from by simp [ctN, hd]] at ih1
          exact ih1
  exact loop T 0 (by omega)
set_option maxHeartbeats 4000000 in
theorem c_X5_deadEndOf {l : Launch} {E : EnT} (hst : l.stackTraces = false) (n : Int32) (M : Mem) (T : Nat) (hT : M 4 0 = nI T) (hT30 : T ≤ 30) : Mm l E mX5_deadEndOf 1 0 0 [.ref 4, .int n] M (Rt (some (.int (ogN (M 15) (outN (M 14) T n T)))) M) := by
  refine Mm_go hst (by decide) rfl (Nat.le_of_ble_eq_true rfl) [some (.ref 4), some (.int n), none] rfl ?_
  refine z_iconst (v := 0) dX5_deadEndOf_0 (by decide) rfl ?_
  refine z_ist2 dX5_deadEndOf_1 (Nat.le_of_ble_eq_true rfl) rfl ?_
  have loop : ∀ (k j : Nat), j + k = T → outN (M 14) T n j = none → Zz (zx l E mX5_deadEndOf 1 (Rt (some (.int (ogN (M 15) (outN (M 14) T n T)))) M)) 0 0 2 [some (.ref 4), some (.int n), some (.int (nI j))] [] M := by
    intro k
    induction k with
    | zero =>
      intro j hj hh
      have e : j = T := by omega
      subst e
      refine z_iload_n dX5_deadEndOf_2 rfl rfl ?_
      refine z_aload_n dX5_deadEndOf_3 rfl rfl ?_
      refine z_gi5 (j := 0) dX5_deadEndOf_4 (by decide) fl_X5_9 rfl rfl rfl ?_
      refine z_icmp_ge (tgt := 37) dX5_deadEndOf_7 (by decide) rfl (fun hc => ?_) (fun hc => ?_)
      · refine z_iconst (v := (-1)) dX5_deadEndOf_37 (by decide) rfl ?_
        exact z_ireturn dX5_deadEndOf_38 rfl ⟨by rw [hh]; rfl, rfl⟩ (Nat.le_of_ble_eq_true rfl) (Nat.le_of_ble_eq_true rfl)
      · exact absurd (by rw [hT]; exact nI_le (Nat.le_refl _) (by omega)) hc
    | succ k ih =>
      intro j hj hh
      refine z_iload_n dX5_deadEndOf_2 rfl rfl ?_
      refine z_aload_n dX5_deadEndOf_3 rfl rfl ?_
      refine z_gi5 (j := 0) dX5_deadEndOf_4 (by decide) fl_X5_9 rfl rfl rfl ?_
      refine z_icmp_ge (tgt := 37) dX5_deadEndOf_7 (by decide) rfl (fun hc => ?_) (fun hc => ?_)
      · exact absurd hc (by rw [hT]; exact nI_ge (by omega) (by omega))
      · refine z_aload_n dX5_deadEndOf_10 rfl rfl ?_
        refine z_aload_n dX5_deadEndOf_11 rfl rfl ?_
        refine z_gr5 (j := 2) dX5_deadEndOf_12 (by decide) fl_X5_18 rfl rfl rfl ?_
        refine z_iload_n dX5_deadEndOf_15 rfl rfl ?_
        refine z_iald dX5_deadEndOf_16 (by first | rfl | exact knd_h (by omega) | exact knd_s (by omega)) rfl (by omega) (by decide) rfl ?_
        refine z_cv1 (ci := 5) (nf := 5) (y := mX5_trainsAheadOf) dX5_deadEndOf_17 ml_X5_32 iv_X5_trainsAheadOf (Nat.le_of_ble_eq_true rfl) rfl (by decide) rfl (Nat.le_of_ble_eq_true rfl) (Nat.le_of_ble_eq_true rfl) (Nat.le_of_ble_eq_true rfl) (c_X5_trainsAheadOf hst (M 14 j) M T hT hT30) rfl ?_
        refine z_iload_n dX5_deadEndOf_20 rfl rfl ?_
        refine z_icmp_ne (tgt := 31) dX5_deadEndOf_21 (by decide) rfl (fun hd => ?_) (fun hd => ?_)
        · first | refine z_iu2 dX5_deadEndOf_31 (Nat.le_of_ble_eq_true rfl) rfl ?_ | refine z_inc2 dX5_deadEndOf_31 (Nat.le_of_ble_eq_true rfl) rfl rfl ?_
          refine z_goto (tgt := 2) dX5_deadEndOf_34 (by decide) ?_
          exact ih (j + 1) (by omega) (by simp [outN, hh, hd])
        · have h1 : outN (M 14) T n (j + 1) = some j := by simp [outN, hh, hd]
          refine z_aload_n dX5_deadEndOf_24 rfl rfl ?_
          refine z_gr5 (j := 3) dX5_deadEndOf_25 (by decide) fl_X5_22 rfl rfl rfl ?_
          refine z_iload_n dX5_deadEndOf_28 rfl rfl ?_
          refine z_iald dX5_deadEndOf_29 (by first | rfl | exact knd_h (by omega) | exact knd_s (by omega)) rfl (by omega) (by decide) rfl ?_
          exact z_ireturn dX5_deadEndOf_30 rfl ⟨by rw [outN_mono h1 (by omega)]; rfl, rfl⟩ (Nat.le_of_ble_eq_true rfl) (Nat.le_of_ble_eq_true rfl)
  exact loop T 0 (by omega) rfl
set_option maxHeartbeats 4000000 in
theorem c_X5_clear {l : Launch} {E : EnT} (hst : l.stackTraces = false) (M : Mem) : Mm l E mX5_clear 0 0 0 [.ref 4] M (Rt none (mu (mu M 4 0 0) 4 1 0)) := by
  refine Mm_go hst (by decide) rfl (Nat.le_of_ble_eq_true rfl) [some (.ref 4)] rfl ?_
  refine z_aload_n dX5_clear_0 rfl rfl ?_
  refine z_iconst (v := 0) dX5_clear_1 (by decide) rfl ?_
  refine z_pi5 (j := 0) dX5_clear_2 (by decide) fl_X5_9 rfl rfl rfl rfl rfl ?_
  refine z_aload_n dX5_clear_5 rfl rfl ?_
  refine z_iconst (v := 0) dX5_clear_6 (by decide) rfl ?_
  refine z_pi5 (j := 1) dX5_clear_7 (by decide) fl_X5_15 rfl rfl rfl rfl rfl ?_
  exact z_return dX5_clear_10 rfl ⟨rfl, rfl⟩ (Nat.le_of_ble_eq_true rfl) (Nat.le_of_ble_eq_true rfl)
/-- the memory behind a train's coming; cells: object, its slots of trains and dead ends; numbers, places, foremost -/
def tkM (M : Mem) (o sT sD cN cP cF : Nat) (n : Int32) (T D : Nat) : Mem :=
  let c := pfN (M cF) n D
  let p := c.getD D
  mu (mu (mu (mu (match c with | none => mu M o sD (nI (D + 1)) | some _ => M) cF p n) cN T n) cP T (nI p)) o sT (nI (T + 1))
set_option maxHeartbeats 4000000 in
theorem c_X5_take {l : Launch} {E : EnT} (hst : l.stackTraces = false) (n : Int32) (M : Mem) (T D : Nat) (hT : M 4 0 = nI T) (hD : M 4 1 = nI D) (hT30 : T < 30) (hD30 : D ≤ T) : Mm l E mX5_take 1 0 0 [.ref 4, .int n] M (Rt (some (.int (nI ((pfN (M 16) n D).getD D)))) (tkM M 4 0 1 14 15 16 n T D)) := by
  refine Mm_go hst (by decide) rfl (Nat.le_of_ble_eq_true rfl) [some (.ref 4), some (.int n), none] rfl ?_
  refine z_aload_n dX5_take_0 rfl rfl ?_
  refine z_iload_n dX5_take_1 rfl rfl ?_
  refine z_cv1 (ci := 5) (nf := 5) (y := mX5_placeFor) dX5_take_2 ml_X5_28 iv_X5_placeFor (Nat.le_of_ble_eq_true rfl) rfl (by decide) rfl (Nat.le_of_ble_eq_true rfl) (Nat.le_of_ble_eq_true rfl) (Nat.le_of_ble_eq_true rfl) (c_X5_placeFor hst n M D hD (by omega)) rfl ?_
  unfold tkM
  cases hp : pfN (M 16) n D with
  | none =>
    refine z_ist2 dX5_take_5 (Nat.le_of_ble_eq_true rfl) rfl ?_
    refine z_iload_n dX5_take_6 rfl rfl ?_
    refine z_iconst (v := (-1)) dX5_take_7 (by decide) rfl ?_
    refine z_icmp_ne (tgt := 26) dX5_take_8 (by decide) rfl (fun hc => ?_) (fun hc => ?_)
    · exact absurd rfl hc
    · refine z_aload_n dX5_take_11 rfl rfl ?_
      refine z_gi5 (j := 1) dX5_take_12 (by decide) fl_X5_15 rfl rfl rfl ?_
      refine z_ist2 dX5_take_15 (Nat.le_of_ble_eq_true rfl) rfl ?_
      refine z_aload_n dX5_take_16 rfl rfl ?_
      refine z_dup dX5_take_17 rfl rfl ?_
      refine z_gi5 (j := 1) dX5_take_18 (by decide) fl_X5_15 rfl rfl rfl ?_
      refine z_iconst (v := 1) dX5_take_21 (by decide) rfl ?_
      refine z_iadd dX5_take_22 rfl ?_
      refine z_pi5 (j := 1) dX5_take_23 (by decide) fl_X5_15 rfl rfl rfl rfl rfl ?_
      refine z_aload_n dX5_take_26 rfl rfl ?_
      refine z_gr5 (j := 4) dX5_take_27 (by decide) fl_X5_25 rfl rfl rfl ?_
      refine z_iload_n dX5_take_30 rfl rfl ?_
      refine z_iload_n dX5_take_31 rfl rfl ?_
      refine z_iast dX5_take_32 (by first | rfl | exact knd_h (by omega) | exact knd_s (by omega)) hD (by omega) (by decide) rfl ?_
      refine z_aload_n dX5_take_33 rfl rfl ?_
      refine z_gr5 (j := 2) dX5_take_34 (by decide) fl_X5_18 rfl rfl rfl ?_
      refine z_aload_n dX5_take_37 rfl rfl ?_
      refine z_gi5 (j := 0) dX5_take_38 (by decide) fl_X5_9 rfl rfl rfl ?_
      refine z_iload_n dX5_take_41 rfl rfl ?_
      refine z_iast dX5_take_42 (by first | rfl | exact knd_h (by omega) | exact knd_s (by omega)) hT (by omega) (by decide) rfl ?_
      refine z_aload_n dX5_take_43 rfl rfl ?_
      refine z_gr5 (j := 3) dX5_take_44 (by decide) fl_X5_22 rfl rfl rfl ?_
      refine z_aload_n dX5_take_47 rfl rfl ?_
      refine z_gi5 (j := 0) dX5_take_48 (by decide) fl_X5_9 rfl rfl rfl ?_
      refine z_iload_n dX5_take_51 rfl rfl ?_
      refine z_iast dX5_take_52 (by first | rfl | exact knd_h (by omega) | exact knd_s (by omega)) hT (by omega) (by decide) rfl ?_
      refine z_aload_n dX5_take_53 rfl rfl ?_
      refine z_dup dX5_take_54 rfl rfl ?_
      refine z_gi5 (j := 0) dX5_take_55 (by decide) fl_X5_9 rfl rfl rfl ?_
      refine z_iconst (v := 1) dX5_take_58 (by decide) rfl ?_
      refine z_iadd dX5_take_59 rfl ?_
      refine z_pi5 (j := 0) dX5_take_60 (by decide) fl_X5_9 rfl rfl rfl rfl rfl ?_
      refine z_mem (N := mu (mu (mu (mu (mu M 4 1 (nI (D + 1))) 16 D n) 14 T n) 15 T (nI D)) 4 0 (nI (T + 1))) ?_ ?_
      · rw [← nI_1 D, ← nI_1 T, ← hT, ← hD]; rfl
      refine z_iload_n dX5_take_63 rfl rfl ?_
      exact z_ireturn dX5_take_64 rfl ⟨by rw [show M 4 1 = nI D from hD]; rfl, rfl⟩ (Nat.le_of_ble_eq_true rfl) (Nat.le_of_ble_eq_true rfl)
  | some c =>
    have hcD := pfN_lt hp
    refine z_ist2 dX5_take_5 (Nat.le_of_ble_eq_true rfl) rfl ?_
    refine z_iload_n dX5_take_6 rfl rfl ?_
    refine z_iconst (v := (-1)) dX5_take_7 (by decide) rfl ?_
    refine z_icmp_ne (tgt := 26) dX5_take_8 (by decide) rfl (fun hc => ?_) (fun hc => ?_)
    · refine z_aload_n dX5_take_26 rfl rfl ?_
      refine z_gr5 (j := 4) dX5_take_27 (by decide) fl_X5_25 rfl rfl rfl ?_
      refine z_iload_n dX5_take_30 rfl rfl ?_
      refine z_iload_n dX5_take_31 rfl rfl ?_
      refine z_iast dX5_take_32 (by first | rfl | exact knd_h (by omega) | exact knd_s (by omega)) rfl (by omega) (by decide) rfl ?_
      refine z_aload_n dX5_take_33 rfl rfl ?_
      refine z_gr5 (j := 2) dX5_take_34 (by decide) fl_X5_18 rfl rfl rfl ?_
      refine z_aload_n dX5_take_37 rfl rfl ?_
      refine z_gi5 (j := 0) dX5_take_38 (by decide) fl_X5_9 rfl rfl rfl ?_
      refine z_iload_n dX5_take_41 rfl rfl ?_
      refine z_iast dX5_take_42 (by first | rfl | exact knd_h (by omega) | exact knd_s (by omega)) hT (by omega) (by decide) rfl ?_
      refine z_aload_n dX5_take_43 rfl rfl ?_
      refine z_gr5 (j := 3) dX5_take_44 (by decide) fl_X5_22 rfl rfl rfl ?_
      refine z_aload_n dX5_take_47 rfl rfl ?_
      refine z_gi5 (j := 0) dX5_take_48 (by decide) fl_X5_9 rfl rfl rfl ?_
      refine z_iload_n dX5_take_51 rfl rfl ?_
      refine z_iast dX5_take_52 (by first | rfl | exact knd_h (by omega) | exact knd_s (by omega)) hT (by omega) (by decide) rfl ?_
      refine z_aload_n dX5_take_53 rfl rfl ?_
      refine z_dup dX5_take_54 rfl rfl ?_
      refine z_gi5 (j := 0) dX5_take_55 (by decide) fl_X5_9 rfl rfl rfl ?_
      refine z_iconst (v := 1) dX5_take_58 (by decide) rfl ?_
      refine z_iadd dX5_take_59 rfl ?_
      refine z_pi5 (j := 0) dX5_take_60 (by decide) fl_X5_9 rfl rfl rfl rfl rfl ?_
      refine z_mem (N := mu (mu (mu (mu M 16 c n) 14 T n) 15 T (nI c)) 4 0 (nI (T + 1))) ?_ ?_
      · rw [← nI_1 T, ← hT]; rfl
      refine z_iload_n dX5_take_63 rfl rfl ?_
      exact z_ireturn dX5_take_64 rfl ⟨rfl, rfl⟩ (Nat.le_of_ble_eq_true rfl) (Nat.le_of_ble_eq_true rfl)
    · exact absurd hc (fun q => nI_nm1 (by omega) q)
