/-! the reference's trains -/
def b2i (c : Prop) [Decidable c] : Int32 := if c then 1 else 0
set_option maxHeartbeats 4000000 in
theorem c_X7_bad1 {l : Launch} {E : EnT} (hst : l.stackTraces = false) (w : Int32) (M : Mem) : Mm l E mX7_bad 0 0 0 [.ref 99, .int 1, .int w] M (Rt (some (.int 1)) (mu M 99 0 w)) := by
  refine Mm_go hst (by decide) rfl (Nat.le_of_ble_eq_true rfl) [some (.ref 99), some (.int 1), some (.int w)] rfl ?_
  refine z_iload_n dX7_bad_0 rfl rfl ?_
  refine z_if_eq (tgt := 9) dX7_bad_1 (by decide) rfl (fun hc => ?_) (fun hc => ?_)
  · exact absurd hc (by decide)
  · refine z_aload_n dX7_bad_4 rfl rfl ?_
    refine z_iload_n dX7_bad_5 rfl rfl ?_
    refine z_pi7 (j := 0) dX7_bad_6 (by decide) fl_X7_79 rfl rfl rfl rfl rfl ?_
    refine z_iload_n dX7_bad_9 rfl rfl ?_
    exact z_zreturn dX7_bad_10 rfl rfl ⟨rfl, rfl⟩ (Nat.le_of_ble_eq_true rfl) (Nat.le_of_ble_eq_true rfl)
set_option maxHeartbeats 4000000 in
theorem c_X7_bad0 {l : Launch} {E : EnT} (hst : l.stackTraces = false) (w : Int32) (M : Mem) : Mm l E mX7_bad 0 0 0 [.ref 99, .int 0, .int w] M (Rt (some (.int 0)) M) := by
  refine Mm_go hst (by decide) rfl (Nat.le_of_ble_eq_true rfl) [some (.ref 99), some (.int 0), some (.int w)] rfl ?_
  refine z_iload_n dX7_bad_0 rfl rfl ?_
  refine z_if_eq (tgt := 9) dX7_bad_1 (by decide) rfl (fun hc => ?_) (fun hc => ?_)
  · refine z_iload_n dX7_bad_9 rfl rfl ?_
    exact z_zreturn dX7_bad_10 rfl rfl ⟨rfl, rfl⟩ (Nat.le_of_ble_eq_true rfl) (Nat.le_of_ble_eq_true rfl)
  · exact absurd rfl hc
set_option maxHeartbeats 4000000 in
theorem c_X7_thrown {l : Launch} {E : EnT} (hst : l.stackTraces = false) (M : Mem) : Mm l E mX7_thrown 0 0 0 [.ref 99] M (Rt (some (.int (M 99 0))) M) := by
  refine Mm_go hst (by decide) rfl (Nat.le_of_ble_eq_true rfl) [some (.ref 99)] rfl ?_
  refine z_aload_n dX7_thrown_0 rfl rfl ?_
  refine z_gi7 (j := 0) dX7_thrown_1 (by decide) fl_X7_79 rfl rfl rfl ?_
  exact z_ireturn dX7_thrown_4 rfl ⟨rfl, rfl⟩ (Nat.le_of_ble_eq_true rfl) (Nat.le_of_ble_eq_true rfl)
set_option maxHeartbeats 4000000 in
theorem c_X7_ends {l : Launch} {E : EnT} (hst : l.stackTraces = false) (M : Mem) : Mm l E mX7_ends 0 0 0 [.ref 99] M (Rt (some (.int (M 99 31))) (mu M 99 0 0)) := by
  refine Mm_go hst (by decide) rfl (Nat.le_of_ble_eq_true rfl) [some (.ref 99)] rfl ?_
  refine z_aload_n dX7_ends_0 rfl rfl ?_
  refine z_iconst (v := 0) dX7_ends_1 (by decide) rfl ?_
  refine z_pi7 (j := 0) dX7_ends_2 (by decide) fl_X7_79 rfl rfl rfl rfl rfl ?_
  refine z_aload_n dX7_ends_5 rfl rfl ?_
  refine z_gi7 (j := 31) dX7_ends_6 (by decide) fl_X7_205 rfl rfl rfl ?_
  exact z_ireturn dX7_ends_9 rfl ⟨rfl, rfl⟩ (Nat.le_of_ble_eq_true rfl) (Nat.le_of_ble_eq_true rfl)
set_option maxHeartbeats 4000000 in
theorem c_X7_leave {l : Launch} {E : EnT} (hst : l.stackTraces = false) (M : Mem) : Mm l E mX7_leave 0 0 0 [.ref 99] M (Rt (some (.int (M 99 30))) (mu (mu (mu M 99 0 0) 99 30 0) 99 31 0)) := by
  refine Mm_go hst (by decide) rfl (Nat.le_of_ble_eq_true rfl) [some (.ref 99), none] rfl ?_
  refine z_aload_n dX7_leave_0 rfl rfl ?_
  refine z_iconst (v := 0) dX7_leave_1 (by decide) rfl ?_
  refine z_pi7 (j := 0) dX7_leave_2 (by decide) fl_X7_79 rfl rfl rfl rfl rfl ?_
  refine z_aload_n dX7_leave_5 rfl rfl ?_
  refine z_gi7 (j := 30) dX7_leave_6 (by decide) fl_X7_202 rfl rfl rfl ?_
  refine z_ist1 dX7_leave_9 (Nat.le_of_ble_eq_true rfl) rfl ?_
  refine z_aload_n dX7_leave_10 rfl rfl ?_
  refine z_iconst (v := 0) dX7_leave_11 (by decide) rfl ?_
  refine z_pi7 (j := 30) dX7_leave_12 (by decide) fl_X7_202 rfl rfl rfl rfl rfl ?_
  refine z_aload_n dX7_leave_15 rfl rfl ?_
  refine z_iconst (v := 0) dX7_leave_16 (by decide) rfl ?_
  refine z_pi7 (j := 31) dX7_leave_17 (by decide) fl_X7_205 rfl rfl rfl rfl rfl ?_
  refine z_iload_n dX7_leave_20 rfl rfl ?_
  exact z_ireturn dX7_leave_21 rfl ⟨rfl, rfl⟩ (Nat.le_of_ble_eq_true rfl) (Nat.le_of_ble_eq_true rfl)
set_option maxHeartbeats 4000000 in
theorem c_X7_out {l : Launch} {E : EnT} (hst : l.stackTraces = false) (n : Int32) (M0 : Mem) (T : Nat) (hT0 : M0 99 30 = nI T) (hT30 : T ≤ 30) : Mm l E mX7_out 0 0 0 [.ref 99, .int n] M0 (Rt (some (.int (ogN (M0 117) (outN (M0 116) T n T)))) (mu M0 99 0 0)) := by
  refine Mm_go hst (by decide) rfl (Nat.le_of_ble_eq_true rfl) [some (.ref 99), some (.int n), none, none, none] rfl ?_
  refine z_aload_n dX7_out_0 rfl rfl ?_
  refine z_iconst (v := 0) dX7_out_1 (by decide) rfl ?_
  refine z_pi7 (j := 0) dX7_out_2 (by decide) fl_X7_79 rfl rfl rfl rfl rfl ?_
  refine z_iconst (v := 0) dX7_out_5 (by decide) rfl ?_
  refine z_ist2 dX7_out_6 (Nat.le_of_ble_eq_true rfl) rfl ?_
  have hT : mu M0 99 0 0 99 30 = nI T := hT0
  have h116 : M0 116 = mu M0 99 0 0 116 := rfl
  have h117 : M0 117 = mu M0 99 0 0 117 := rfl
  rw [h116, h117]
  generalize mu M0 99 0 0 = M at hT ⊢
  have inner : ∀ (j : Nat), j < T → ∀ (k o : Nat), o + k = T → Zz (zx l E mX7_out 0 (Rt (some (.int (ogN (M 117) (outN (M 116) T n T)))) M)) 0 0 59 [some (.ref 99), some (.int n), some (.int (nI j)), some (.int (nI (ctN (M 116) (M 116 j) T))), some (.int (nI T))] [] M → Zz (zx l E mX7_out 0 (Rt (some (.int (ogN (M 117) (outN (M 116) T n T)))) M)) 0 0 20 [some (.ref 99), some (.int n), some (.int (nI j)), some (.int (nI (ctN (M 116) (M 116 j) o))), some (.int (nI o))] [] M := by
    intro j hjT k
    induction k with
    | zero =>
      intro o ho hgo
      have e : o = T := by omega
      subst e
      refine z_iload dX7_out_20 rfl rfl ?_
      refine z_aload_n dX7_out_22 rfl rfl ?_
      refine z_gi7 (j := 30) dX7_out_23 (by decide) fl_X7_202 rfl rfl rfl ?_
      refine z_icmp_ge (tgt := 59) dX7_out_26 (by decide) rfl (fun hc => ?_) (fun hc => ?_)
      · exact hgo
      · exact absurd (by rw [hT]; exact nI_le (Nat.le_refl _) (by omega)) hc
    | succ k ih =>
      intro o ho hgo
      have ih1 := ih (o + 1) (by omega) hgo
      refine z_iload dX7_out_20 rfl rfl ?_
      refine z_aload_n dX7_out_22 rfl rfl ?_
      refine z_gi7 (j := 30) dX7_out_23 (by decide) fl_X7_202 rfl rfl rfl ?_
      refine z_icmp_ge (tgt := 59) dX7_out_26 (by decide) rfl (fun hc => ?_) (fun hc => ?_)
      · exact absurd hc (by rw [hT]; exact nI_ge (by omega) (by omega))
      · refine z_iload_n dX7_out_29 rfl rfl ?_
        refine z_aload_n dX7_out_30 rfl rfl ?_
        refine z_gr7 (j := 27) dX7_out_31 (by decide) fl_X7_70 rfl rfl rfl ?_
        refine z_iload dX7_out_34 rfl rfl ?_
        refine z_iald dX7_out_36 (by first | rfl | exact knd_h (by omega) | exact knd_s (by omega)) rfl (by omega) (by decide) rfl ?_
        refine z_aload_n dX7_out_37 rfl rfl ?_
        refine z_gr7 (j := 27) dX7_out_38 (by decide) fl_X7_70 rfl rfl rfl ?_
        refine z_iload_n dX7_out_41 rfl rfl ?_
        refine z_iald dX7_out_42 (by first | rfl | exact knd_h (by omega) | exact knd_s (by omega)) rfl (by omega) (by decide) rfl ?_
        refine z_icmp_ge (tgt := 50) dX7_out_43 (by decide) rfl (fun hd => ?_) (fun hd => ?_)
        · refine z_iconst (v := 0) dX7_out_50 (by decide) rfl ?_
          rw [show ctN (M 116) (M 116 j) (o + 1) = ctN (M 116) (M 116 j) o from by simp [ctN, hd]] at ih1
          refine z_iadd dX7_out_51 rfl ?_
          refine z_tp (b := (nI (ctN (M 116) (M 116 j) o))) (by rw [Int32.add_zero]) ?_
          refine z_ist3 dX7_out_52 (Nat.le_of_ble_eq_true rfl) rfl ?_
          first | refine z_iu4 dX7_out_53 (Nat.le_of_ble_eq_true rfl) rfl ?_ | refine z_inc4 dX7_out_53 (Nat.le_of_ble_eq_true rfl) rfl rfl ?_
          refine z_goto (tgt := 20) dX7_out_56 (by decide) ?_
          exact ih1
        · refine z_iconst (v := 1) dX7_out_46 (by decide) rfl ?_
          refine z_goto (tgt := 51) dX7_out_47 (by decide) ?_
          rw [show ctN (M 116) (M 116 j) (o + 1) = ctN (M 116) (M 116 j) o + 1 from by simp [ctN, hd]] at ih1
          refine z_iadd dX7_out_51 rfl ?_
          refine z_tp (b := (nI (ctN (M 116) (M 116 j) o + 1))) (nI_1 _) ?_
          refine z_ist3 dX7_out_52 (Nat.le_of_ble_eq_true rfl) rfl ?_
          first | refine z_iu4 dX7_out_53 (Nat.le_of_ble_eq_true rfl) rfl ?_ | refine z_inc4 dX7_out_53 (Nat.le_of_ble_eq_true rfl) rfl rfl ?_
          refine z_goto (tgt := 20) dX7_out_56 (by decide) ?_
          exact ih1
  have loop : ∀ (k j : Nat), j + k = T → outN (M 116) T n j = none → ∀ (u v : Option Value), Zz (zx l E mX7_out 0 (Rt (some (.int (ogN (M 117) (outN (M 116) T n T)))) M)) 0 0 7 [some (.ref 99), some (.int n), some (.int (nI j)), u, v] [] M := by
    intro k
    induction k with
    | zero =>
      intro j hj hh u v
      have e : j = T := by omega
      subst e
      refine z_iload_n dX7_out_7 rfl rfl ?_
      refine z_aload_n dX7_out_8 rfl rfl ?_
      refine z_gi7 (j := 30) dX7_out_9 (by decide) fl_X7_202 rfl rfl rfl ?_
      refine z_icmp_ge (tgt := 77) dX7_out_12 (by decide) rfl (fun hc => ?_) (fun hc => ?_)
      · refine z_iconst (v := (-1)) dX7_out_77 (by decide) rfl ?_
        exact z_ireturn dX7_out_78 rfl ⟨by rw [hh]; rfl, rfl⟩ (Nat.le_of_ble_eq_true rfl) (Nat.le_of_ble_eq_true rfl)
      · exact absurd (by rw [hT]; exact nI_le (Nat.le_refl _) (by omega)) hc
    | succ k ih =>
      intro j hj hh u v
      refine z_iload_n dX7_out_7 rfl rfl ?_
      refine z_aload_n dX7_out_8 rfl rfl ?_
      refine z_gi7 (j := 30) dX7_out_9 (by decide) fl_X7_202 rfl rfl rfl ?_
      refine z_icmp_ge (tgt := 77) dX7_out_12 (by decide) rfl (fun hc => ?_) (fun hc => ?_)
      · exact absurd hc (by rw [hT]; exact nI_ge (by omega) (by omega))
      · refine z_iconst (v := 0) dX7_out_15 (by decide) rfl ?_
        refine z_ist3 dX7_out_16 (Nat.le_of_ble_eq_true rfl) rfl ?_
        refine z_iconst (v := 0) dX7_out_17 (by decide) rfl ?_
        refine z_ist4 dX7_out_18 (Nat.le_of_ble_eq_true rfl) rfl ?_
        refine inner j (by omega) T 0 (by omega) ?_
        refine z_iload_n dX7_out_59 rfl rfl ?_
        refine z_iload_n dX7_out_60 rfl rfl ?_
        refine z_icmp_ne (tgt := 71) dX7_out_61 (by decide) rfl (fun hd => ?_) (fun hd => ?_)
        · first | refine z_iu2 dX7_out_71 (Nat.le_of_ble_eq_true rfl) rfl ?_ | refine z_inc2 dX7_out_71 (Nat.le_of_ble_eq_true rfl) rfl rfl ?_
          refine z_goto (tgt := 7) dX7_out_74 (by decide) ?_
          exact ih (j + 1) (by omega) (by simp [outN, hh, hd]) _ _
        · have h1 : outN (M 116) T n (j + 1) = some j := by simp [outN, hh, hd]
          refine z_aload_n dX7_out_64 rfl rfl ?_
          refine z_gr7 (j := 28) dX7_out_65 (by decide) fl_X7_73 rfl rfl rfl ?_
          refine z_iload_n dX7_out_68 rfl rfl ?_
          refine z_iald dX7_out_69 (by first | rfl | exact knd_h (by omega) | exact knd_s (by omega)) rfl (by omega) (by decide) rfl ?_
          exact z_ireturn dX7_out_70 rfl ⟨by rw [outN_mono h1 (by omega)]; rfl, rfl⟩ (Nat.le_of_ble_eq_true rfl) (Nat.le_of_ble_eq_true rfl)
  exact loop T 0 (by omega) rfl _ _
/-- what the reference's train answers, and its memory -/
def trR (M : Mem) (n : Int32) (T D : Nat) : Int32 × Mem :=
  if n < 0 ∨ 1000 < n then (0, mu (mu M 99 0 0) 99 0 1)
  else if T = 30 then (-1, mu M 99 0 0)
  else if hsN (M 116) n T then (-2, mu M 99 0 0)
  else (nI ((pfN (M 118) n D).getD D), tkM (mu M 99 0 0) 99 30 31 116 117 118 n T D)
set_option maxHeartbeats 4000000 in
theorem c_X7_train {l : Launch} {E : EnT} (hst : l.stackTraces = false) (n : Int32) (M0 : Mem) (T D : Nat) (hT0 : M0 99 30 = nI T) (hD0 : M0 99 31 = nI D) (hT30 : T ≤ 30) (hDT : D ≤ T) : Mm l E mX7_train 1 0 0 [.ref 99, .int n] M0 (Rt (some (.int (trR M0 n T D).1)) (trR M0 n T D).2) := by
  refine Mm_go hst (by decide) rfl (Nat.le_of_ble_eq_true rfl) [some (.ref 99), some (.int n), none, none] rfl ?_
  have bd : n < 0 ∨ 1000 < n → Zz (zx l E mX7_train 1 (Rt (some (.int (trR M0 n T D).1)) (trR M0 n T D).2)) 0 0 17 [some (.ref 99), some (.int n), none, none] [.ref 99] (mu M0 99 0 0) := fun hb => by
    refine z_iconst (v := 1) dX7_train_17 (by decide) rfl ?_
    refine z_goto (tgt := 22) dX7_train_18 (by decide) ?_
    refine z_iconst (v := 1) dX7_train_22 (by decide) rfl ?_
    refine z_cv2 (ci := 7) (nf := 32) (y := mX7_bad) dX7_train_23 ml_X7_154 iv_X7_bad (Nat.le_of_ble_eq_true rfl) rfl (by decide) rfl (Nat.le_of_ble_eq_true rfl) (Nat.le_of_ble_eq_true rfl) (Nat.le_of_ble_eq_true rfl) (c_X7_bad1 hst 1 _) rfl ?_
    refine z_if_eq (tgt := 31) dX7_train_26 (by decide) rfl (fun hc => ?_) (fun hc => ?_)
    · exact absurd hc (by decide)
    · refine z_iconst (v := 0) dX7_train_29 (by decide) rfl ?_
      exact z_ireturn dX7_train_30 rfl ⟨by simp [trR, hb], by simp [trR, hb]⟩ (Nat.le_of_ble_eq_true rfl) (Nat.le_of_ble_eq_true rfl)
  refine z_aload_n dX7_train_0 rfl rfl ?_
  refine z_iconst (v := 0) dX7_train_1 (by decide) rfl ?_
  refine z_pi7 (j := 0) dX7_train_2 (by decide) fl_X7_79 rfl rfl rfl rfl rfl ?_
  refine z_aload_n dX7_train_5 rfl rfl ?_
  refine z_iload_n dX7_train_6 rfl rfl ?_
  refine z_if_lt (tgt := 17) dX7_train_7 (by decide) rfl (fun h1 => ?_) (fun h1 => ?_)
  · exact bd (Or.inl h1)
  refine z_iload_n dX7_train_10 rfl rfl ?_
  refine z_sipush (v := 1000) dX7_train_11 (by decide) rfl ?_
  refine z_icmp_le (tgt := 21) dX7_train_14 (by decide) rfl (fun h2 => ?_) (fun h2 => ?_)
  · have hnb : ¬ (n < 0 ∨ 1000 < n) := fun q => q.elim h1 (fun q => by rw [Int32.lt_iff_toInt_lt] at q; rw [Int32.le_iff_toInt_le] at h2; omega)
    refine z_iconst (v := 0) dX7_train_21 (by decide) rfl ?_
    refine z_iconst (v := 1) dX7_train_22 (by decide) rfl ?_
    refine z_cv2 (ci := 7) (nf := 32) (y := mX7_bad) dX7_train_23 ml_X7_154 iv_X7_bad (Nat.le_of_ble_eq_true rfl) rfl (by decide) rfl (Nat.le_of_ble_eq_true rfl) (Nat.le_of_ble_eq_true rfl) (Nat.le_of_ble_eq_true rfl) (c_X7_bad0 hst 1 _) rfl ?_
    refine z_if_eq (tgt := 31) dX7_train_26 (by decide) rfl (fun hc => ?_) (fun hc => ?_)
    · refine z_aload_n dX7_train_31 rfl rfl ?_
      refine z_gi7 (j := 30) dX7_train_32 (by decide) fl_X7_202 rfl rfl rfl ?_
      refine z_bipush (v := 30) dX7_train_35 (by decide) rfl ?_
      refine z_icmp_ne (tgt := 42) dX7_train_37 (by decide) rfl (fun h3 => ?_) (fun h3 => ?_)
      · have hT30' : T ≠ 30 := fun q => h3 (by rw [show mu M0 99 0 0 99 30 = nI T from hT0, q]; rfl)
        have hT : mu M0 99 0 0 99 30 = nI T := hT0
        have hD : mu M0 99 0 0 99 31 = nI D := hD0
        have hR : ∀ (x : Int32 × Mem), x = (if hsN (mu M0 99 0 0 116) n T then (-2, mu M0 99 0 0) else (nI ((pfN (mu M0 99 0 0 118) n D).getD D), tkM (mu M0 99 0 0) 99 30 31 116 117 118 n T D)) → trR M0 n T D = x := fun x hx => by
          rw [hx]; simp only [trR, if_neg hnb, if_neg hT30']; rfl
        rw [hR _ rfl]
        generalize mu M0 99 0 0 = M at hT hD ⊢
        have pl : hsN (M 116) n T = false → ∀ (k j : Nat), j + k = D → Zz (zx l E mX7_train 1 (Rt (some (.int (nI ((pfN (M 118) n D).getD D)))) (tkM M 99 30 31 116 117 118 n T D))) 0 0 78 [some (.ref 99), some (.int n), some (.int (peN (nI D) (pfN (M 118) n j))), some (.int (nI j))] [] M := by
          intro hno k
          induction k with
          | zero =>
            intro j hj
            have e : j = D := by omega
            subst e
            refine z_iload_n dX7_train_78 rfl rfl ?_
            refine z_aload_n dX7_train_79 rfl rfl ?_
            refine z_gi7 (j := 31) dX7_train_80 (by decide) fl_X7_205 rfl rfl rfl ?_
            refine z_icmp_ge (tgt := 127) dX7_train_83 (by decide) rfl (fun hc4 => ?_) (fun hc4 => ?_)
            · unfold tkM
              cases hp : pfN (M 118) n j with
              | none =>
                refine z_iload_n dX7_train_127 rfl rfl ?_
                refine z_aload_n dX7_train_128 rfl rfl ?_
                refine z_gi7 (j := 31) dX7_train_129 (by decide) fl_X7_205 rfl rfl rfl ?_
                refine z_icmp_ne (tgt := 145) dX7_train_132 (by decide) rfl (fun h5 => ?_) (fun h5 => ?_)
                · exact absurd hD.symm h5
                · refine z_aload_n dX7_train_135 rfl rfl ?_
                  refine z_dup dX7_train_136 rfl rfl ?_
                  refine z_gi7 (j := 31) dX7_train_137 (by decide) fl_X7_205 rfl rfl rfl ?_
                  refine z_iconst (v := 1) dX7_train_140 (by decide) rfl ?_
                  refine z_iadd dX7_train_141 rfl ?_
                  refine z_pi7 (j := 31) dX7_train_142 (by decide) fl_X7_205 rfl rfl rfl rfl rfl ?_
                  refine z_aload_n dX7_train_145 rfl rfl ?_
                  refine z_gr7 (j := 29) dX7_train_146 (by decide) fl_X7_76 rfl rfl rfl ?_
                  refine z_iload_n dX7_train_149 rfl rfl ?_
                  refine z_iload_n dX7_train_150 rfl rfl ?_
                  refine z_iast dX7_train_151 (by first | rfl | exact knd_h (by omega) | exact knd_s (by omega)) rfl (by omega) (by decide) rfl ?_
                  refine z_aload_n dX7_train_152 rfl rfl ?_
                  refine z_gr7 (j := 27) dX7_train_153 (by decide) fl_X7_70 rfl rfl rfl ?_
                  refine z_aload_n dX7_train_156 rfl rfl ?_
                  refine z_gi7 (j := 30) dX7_train_157 (by decide) fl_X7_202 rfl rfl rfl ?_
                  refine z_iload_n dX7_train_160 rfl rfl ?_
                  refine z_iast dX7_train_161 (by first | rfl | exact knd_h (by omega) | exact knd_s (by omega)) hT (by omega) (by decide) rfl ?_
                  refine z_aload_n dX7_train_162 rfl rfl ?_
                  refine z_gr7 (j := 28) dX7_train_163 (by decide) fl_X7_73 rfl rfl rfl ?_
                  refine z_aload_n dX7_train_166 rfl rfl ?_
                  refine z_gi7 (j := 30) dX7_train_167 (by decide) fl_X7_202 rfl rfl rfl ?_
                  refine z_iload_n dX7_train_170 rfl rfl ?_
                  refine z_iast dX7_train_171 (by first | rfl | exact knd_h (by omega) | exact knd_s (by omega)) hT (by omega) (by decide) rfl ?_
                  refine z_aload_n dX7_train_172 rfl rfl ?_
                  refine z_dup dX7_train_173 rfl rfl ?_
                  refine z_gi7 (j := 30) dX7_train_174 (by decide) fl_X7_202 rfl rfl rfl ?_
                  refine z_iconst (v := 1) dX7_train_177 (by decide) rfl ?_
                  refine z_iadd dX7_train_178 rfl ?_
                  refine z_pi7 (j := 30) dX7_train_179 (by decide) fl_X7_202 rfl rfl rfl rfl rfl ?_
                  refine z_mem (N := mu (mu (mu (mu (mu M 99 31 (nI (j + 1))) 118 j n) 116 T n) 117 T (nI j)) 99 30 (nI (T + 1))) ?_ ?_
                  · rw [← nI_1 j, ← nI_1 T, ← hT, ← hD]; rfl
                  refine z_iload_n dX7_train_182 rfl rfl ?_
                  exact z_ireturn dX7_train_183 rfl ⟨rfl, rfl⟩ (Nat.le_of_ble_eq_true rfl) (Nat.le_of_ble_eq_true rfl)
              | some c =>
                have hcD := pfN_lt hp
                refine z_iload_n dX7_train_127 rfl rfl ?_
                refine z_aload_n dX7_train_128 rfl rfl ?_
                refine z_gi7 (j := 31) dX7_train_129 (by decide) fl_X7_205 rfl rfl rfl ?_
                refine z_icmp_ne (tgt := 145) dX7_train_132 (by decide) rfl (fun h5 => ?_) (fun h5 => ?_)
                · refine z_aload_n dX7_train_145 rfl rfl ?_
                  refine z_gr7 (j := 29) dX7_train_146 (by decide) fl_X7_76 rfl rfl rfl ?_
                  refine z_iload_n dX7_train_149 rfl rfl ?_
                  refine z_iload_n dX7_train_150 rfl rfl ?_
                  refine z_iast dX7_train_151 (by first | rfl | exact knd_h (by omega) | exact knd_s (by omega)) rfl (by omega) (by decide) rfl ?_
                  refine z_aload_n dX7_train_152 rfl rfl ?_
                  refine z_gr7 (j := 27) dX7_train_153 (by decide) fl_X7_70 rfl rfl rfl ?_
                  refine z_aload_n dX7_train_156 rfl rfl ?_
                  refine z_gi7 (j := 30) dX7_train_157 (by decide) fl_X7_202 rfl rfl rfl ?_
                  refine z_iload_n dX7_train_160 rfl rfl ?_
                  refine z_iast dX7_train_161 (by first | rfl | exact knd_h (by omega) | exact knd_s (by omega)) hT (by omega) (by decide) rfl ?_
                  refine z_aload_n dX7_train_162 rfl rfl ?_
                  refine z_gr7 (j := 28) dX7_train_163 (by decide) fl_X7_73 rfl rfl rfl ?_
                  refine z_aload_n dX7_train_166 rfl rfl ?_
                  refine z_gi7 (j := 30) dX7_train_167 (by decide) fl_X7_202 rfl rfl rfl ?_
                  refine z_iload_n dX7_train_170 rfl rfl ?_
                  refine z_iast dX7_train_171 (by first | rfl | exact knd_h (by omega) | exact knd_s (by omega)) hT (by omega) (by decide) rfl ?_
                  refine z_aload_n dX7_train_172 rfl rfl ?_
                  refine z_dup dX7_train_173 rfl rfl ?_
                  refine z_gi7 (j := 30) dX7_train_174 (by decide) fl_X7_202 rfl rfl rfl ?_
                  refine z_iconst (v := 1) dX7_train_177 (by decide) rfl ?_
                  refine z_iadd dX7_train_178 rfl ?_
                  refine z_pi7 (j := 30) dX7_train_179 (by decide) fl_X7_202 rfl rfl rfl rfl rfl ?_
                  refine z_mem (N := mu (mu (mu (mu M 118 c n) 116 T n) 117 T (nI c)) 99 30 (nI (T + 1))) ?_ ?_
                  · rw [← nI_1 T, ← hT]; rfl
                  refine z_iload_n dX7_train_182 rfl rfl ?_
                  exact z_ireturn dX7_train_183 rfl ⟨rfl, rfl⟩ (Nat.le_of_ble_eq_true rfl) (Nat.le_of_ble_eq_true rfl)
                · exact absurd (h5.trans hD) (fun q => by have := (nI_eq (show c < 2 ^ 31 by omega) (show j < 2 ^ 31 by omega)).mp q; omega)
            · exact absurd (by rw [hD]; exact nI_le (Nat.le_refl _) (by omega)) hc4
          | succ k ih =>
            intro j hj
            have ih1 := ih (j + 1) (by omega)
            refine z_iload_n dX7_train_78 rfl rfl ?_
            refine z_aload_n dX7_train_79 rfl rfl ?_
            refine z_gi7 (j := 31) dX7_train_80 (by decide) fl_X7_205 rfl rfl rfl ?_
            refine z_icmp_ge (tgt := 127) dX7_train_83 (by decide) rfl (fun hc4 => ?_) (fun hc4 => ?_)
            · exact absurd hc4 (by rw [hD]; exact nI_ge (by omega) (by omega))
            · refine z_aload_n dX7_train_86 rfl rfl ?_
              refine z_gr7 (j := 29) dX7_train_87 (by decide) fl_X7_76 rfl rfl rfl ?_
              refine z_iload_n dX7_train_90 rfl rfl ?_
              refine z_iald dX7_train_91 (by first | rfl | exact knd_h (by omega) | exact knd_s (by omega)) rfl (by omega) (by decide) rfl ?_
              refine z_iload_n dX7_train_92 rfl rfl ?_
              refine z_icmp_le (tgt := 121) dX7_train_93 (by decide) rfl (fun hd => ?_) (fun hd => ?_)
              · first | refine z_iu3 dX7_train_121 (Nat.le_of_ble_eq_true rfl) rfl ?_ | refine z_inc3 dX7_train_121 (Nat.le_of_ble_eq_true rfl) rfl rfl ?_
                refine z_goto (tgt := 78) dX7_train_124 (by decide) ?_
                rw [show pfN (M 118) n (j + 1) = pfN (M 118) n j from by simp [pfN, hd]] at ih1
                exact ih1
              · cases hp : pfN (M 118) n j with
                | none =>
                  refine z_iload_n dX7_train_96 rfl rfl ?_
                  refine z_aload_n dX7_train_97 rfl rfl ?_
                  refine z_gi7 (j := 31) dX7_train_98 (by decide) fl_X7_205 rfl rfl rfl ?_
                  refine z_icmp_eq (tgt := 119) dX7_train_101 (by decide) rfl (fun he => ?_) (fun he => ?_)
                  · refine z_iload_n dX7_train_119 rfl rfl ?_
                    refine z_ist2 dX7_train_120 (Nat.le_of_ble_eq_true rfl) rfl ?_
                    first | refine z_iu3 dX7_train_121 (Nat.le_of_ble_eq_true rfl) rfl ?_ | refine z_inc3 dX7_train_121 (Nat.le_of_ble_eq_true rfl) rfl rfl ?_
                    refine z_goto (tgt := 78) dX7_train_124 (by decide) ?_
                    rw [show pfN (M 118) n (j + 1) = some j from by simp [pfN, hd, hp]] at ih1
                    exact ih1
                  · exact absurd hD.symm he
                | some c =>
                  have hcj := pfN_lt hp
                  refine z_iload_n dX7_train_96 rfl rfl ?_
                  refine z_aload_n dX7_train_97 rfl rfl ?_
                  refine z_gi7 (j := 31) dX7_train_98 (by decide) fl_X7_205 rfl rfl rfl ?_
                  refine z_icmp_eq (tgt := 119) dX7_train_101 (by decide) rfl (fun he => ?_) (fun he => ?_)
                  · exact absurd (he.trans hD) (fun q => by have := (nI_eq (show c < 2 ^ 31 by omega) (show D < 2 ^ 31 by omega)).mp q; omega)
                  · refine z_aload_n dX7_train_104 rfl rfl ?_
                    refine z_gr7 (j := 29) dX7_train_105 (by decide) fl_X7_76 rfl rfl rfl ?_
                    refine z_iload_n dX7_train_108 rfl rfl ?_
                    refine z_iald dX7_train_109 (by first | rfl | exact knd_h (by omega) | exact knd_s (by omega)) rfl (by omega) (by decide) rfl ?_
                    refine z_aload_n dX7_train_110 rfl rfl ?_
                    refine z_gr7 (j := 29) dX7_train_111 (by decide) fl_X7_76 rfl rfl rfl ?_
                    refine z_iload_n dX7_train_114 rfl rfl ?_
                    refine z_iald dX7_train_115 (by first | rfl | exact knd_h (by omega) | exact knd_s (by omega)) rfl (by omega) (by decide) rfl ?_
                    refine z_icmp_ge (tgt := 121) dX7_train_116 (by decide) rfl (fun hf => ?_) (fun hf => ?_)
                    · first | refine z_iu3 dX7_train_121 (Nat.le_of_ble_eq_true rfl) rfl ?_ | refine z_inc3 dX7_train_121 (Nat.le_of_ble_eq_true rfl) rfl rfl ?_
                      refine z_goto (tgt := 78) dX7_train_124 (by decide) ?_
                      rw [show pfN (M 118) n (j + 1) = some c from by simp [pfN, hd, hp, hf]] at ih1
                      exact ih1
                    · refine z_iload_n dX7_train_119 rfl rfl ?_
                      refine z_ist2 dX7_train_120 (Nat.le_of_ble_eq_true rfl) rfl ?_
                      first | refine z_iu3 dX7_train_121 (Nat.le_of_ble_eq_true rfl) rfl ?_ | refine z_inc3 dX7_train_121 (Nat.le_of_ble_eq_true rfl) rfl rfl ?_
                      refine z_goto (tgt := 78) dX7_train_124 (by decide) ?_
                      rw [show pfN (M 118) n (j + 1) = some j from by simp [pfN, hd, hp, hf]] at ih1
                      exact ih1
        have sc : ∀ (k j : Nat), j + k = T → hsN (M 116) n j = false → Zz (zx l E mX7_train 1 (Rt (some (.int (if hsN (M 116) n T = true then ((-2 : Int32), M) else (nI ((pfN (M 118) n D).getD D), tkM M 99 30 31 116 117 118 n T D)).1)) (if hsN (M 116) n T = true then ((-2 : Int32), M) else (nI ((pfN (M 118) n D).getD D), tkM M 99 30 31 116 117 118 n T D)).2)) 0 0 44 [some (.ref 99), some (.int n), some (.int (nI j)), none] [] M := by
          intro k
          induction k with
          | zero =>
            intro j hj hh
            have e : j = T := by omega
            subst e
            refine z_iload_n dX7_train_44 rfl rfl ?_
            refine z_aload_n dX7_train_45 rfl rfl ?_
            refine z_gi7 (j := 30) dX7_train_46 (by decide) fl_X7_202 rfl rfl rfl ?_
            refine z_icmp_ge (tgt := 71) dX7_train_49 (by decide) rfl (fun hc4 => ?_) (fun hc4 => ?_)
            · rw [hh]
              refine z_aload_n dX7_train_71 rfl rfl ?_
              refine z_gi7 (j := 31) dX7_train_72 (by decide) fl_X7_205 rfl rfl rfl ?_
              refine z_tp (b := (nI D)) hD ?_
              refine z_ist2 dX7_train_75 (Nat.le_of_ble_eq_true rfl) rfl ?_
              refine z_iconst (v := 0) dX7_train_76 (by decide) rfl ?_
              refine z_ist3 dX7_train_77 (Nat.le_of_ble_eq_true rfl) rfl ?_
              exact pl hh D 0 (by omega)
            · exact absurd (by rw [hT]; exact nI_le (Nat.le_refl _) (by omega)) hc4
          | succ k ih =>
            intro j hj hh
            refine z_iload_n dX7_train_44 rfl rfl ?_
            refine z_aload_n dX7_train_45 rfl rfl ?_
            refine z_gi7 (j := 30) dX7_train_46 (by decide) fl_X7_202 rfl rfl rfl ?_
            refine z_icmp_ge (tgt := 71) dX7_train_49 (by decide) rfl (fun hc4 => ?_) (fun hc4 => ?_)
            · exact absurd hc4 (by rw [hT]; exact nI_ge (by omega) (by omega))
            · refine z_aload_n dX7_train_52 rfl rfl ?_
              refine z_gr7 (j := 27) dX7_train_53 (by decide) fl_X7_70 rfl rfl rfl ?_
              refine z_iload_n dX7_train_56 rfl rfl ?_
              refine z_iald dX7_train_57 (by first | rfl | exact knd_h (by omega) | exact knd_s (by omega)) rfl (by omega) (by decide) rfl ?_
              refine z_iload_n dX7_train_58 rfl rfl ?_
              refine z_icmp_ne (tgt := 65) dX7_train_59 (by decide) rfl (fun hd => ?_) (fun hd => ?_)
              · first | refine z_iu2 dX7_train_65 (Nat.le_of_ble_eq_true rfl) rfl ?_ | refine z_inc2 dX7_train_65 (Nat.le_of_ble_eq_true rfl) rfl rfl ?_
                refine z_goto (tgt := 44) dX7_train_68 (by decide) ?_
                exact ih (j + 1) (by omega) (by simp [hsN, hh, hd])
              · have h9 : hsN (M 116) n (j + 1) = true := by simp [hsN, hd]
                rw [hsN_mono h9 (by omega)]
                refine z_bipush (v := (-2)) dX7_train_62 (by decide) rfl ?_
                exact z_ireturn dX7_train_64 rfl ⟨rfl, rfl⟩ (Nat.le_of_ble_eq_true rfl) (Nat.le_of_ble_eq_true rfl)
        refine z_iconst (v := 0) dX7_train_42 (by decide) rfl ?_
        refine z_ist2 dX7_train_43 (Nat.le_of_ble_eq_true rfl) rfl ?_
        exact sc T 0 (by omega) rfl
      · have hT30' : T = 30 := (nI_eq (by omega) (by decide)).mp (hT0.symm.trans h3)
        refine z_iconst (v := (-1)) dX7_train_40 (by decide) rfl ?_
        exact z_ireturn dX7_train_41 rfl ⟨by simp [trR, hnb, hT30'], by simp [trR, hnb, hT30']⟩ (Nat.le_of_ble_eq_true rfl) (Nat.le_of_ble_eq_true rfl)
    · exact absurd rfl hc
  · exact bd (Or.inr (by rw [Int32.lt_iff_toInt_lt]; rw [Int32.le_iff_toInt_le] at h2; omega))
