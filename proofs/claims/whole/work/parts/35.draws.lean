/-! hours, works, draws -/
def hrM (M : Mem) (r j : Nat) : Int32 := if r = 0 then M 101 j else if r = 1 then M 102 j else M 110 (16 * (r - 2) + j)
set_option maxHeartbeats 4000000 in
theorem c_X7_hoursOf {l : Launch} {E : EnT} (hst : l.stackTraces = false) (r j : Nat) (M : Mem) (hr : r < 22) (hj : j < 16) : Mm l E mX7_hoursOf 0 0 0 [.ref 99, .int (nI r), .int (nI j)] M (Rt (some (.int (hrM M r j))) M) := by
  refine Mm_go hst (by decide) rfl (Nat.le_of_ble_eq_true rfl) [some (.ref 99), some (.int (nI r)), some (.int (nI j))] rfl ?_
  rcases (show r = 0 ∨ r = 1 ∨ 2 ≤ r by omega) with rfl | rfl | h2
  · refine z_iload_n dX7_hoursOf_0 rfl rfl ?_
    refine z_if_ne (tgt := 13) dX7_hoursOf_1 (by decide) rfl (fun h1 => ?_) (fun h1 => ?_)
    · exact absurd rfl h1
    · refine z_aload_n dX7_hoursOf_4 rfl rfl ?_
      refine z_gr7 (j := 7) dX7_hoursOf_5 (by decide) fl_X7_17 rfl rfl rfl ?_
      refine z_iload_n dX7_hoursOf_8 rfl rfl ?_
      refine z_iald dX7_hoursOf_9 (by first | rfl | exact knd_h (by omega) | exact knd_s (by omega)) rfl (by omega) (by decide) rfl ?_
      refine z_goto (tgt := 40) dX7_hoursOf_10 (by decide) ?_
      exact z_ireturn dX7_hoursOf_40 rfl ⟨rfl, rfl⟩ (Nat.le_of_ble_eq_true rfl) (Nat.le_of_ble_eq_true rfl)
  · refine z_iload_n dX7_hoursOf_0 rfl rfl ?_
    refine z_if_ne (tgt := 13) dX7_hoursOf_1 (by decide) rfl (fun h1 => ?_) (fun h1 => ?_)
    · refine z_iload_n dX7_hoursOf_13 rfl rfl ?_
      refine z_iconst (v := 1) dX7_hoursOf_14 (by decide) rfl ?_
      refine z_icmp_ne (tgt := 27) dX7_hoursOf_15 (by decide) rfl (fun h3 => ?_) (fun h3 => ?_)
      · exact absurd rfl h3
      · refine z_aload_n dX7_hoursOf_18 rfl rfl ?_
        refine z_gr7 (j := 8) dX7_hoursOf_19 (by decide) fl_X7_21 rfl rfl rfl ?_
        refine z_iload_n dX7_hoursOf_22 rfl rfl ?_
        refine z_iald dX7_hoursOf_23 (by first | rfl | exact knd_h (by omega) | exact knd_s (by omega)) rfl (by omega) (by decide) rfl ?_
        refine z_goto (tgt := 40) dX7_hoursOf_24 (by decide) ?_
        exact z_ireturn dX7_hoursOf_40 rfl ⟨rfl, rfl⟩ (Nat.le_of_ble_eq_true rfl) (Nat.le_of_ble_eq_true rfl)
    · exact absurd h1 (by decide)
  · refine z_iload_n dX7_hoursOf_0 rfl rfl ?_
    refine z_if_ne (tgt := 13) dX7_hoursOf_1 (by decide) rfl (fun h1 => ?_) (fun h1 => ?_)
    · refine z_iload_n dX7_hoursOf_13 rfl rfl ?_
      refine z_iconst (v := 1) dX7_hoursOf_14 (by decide) rfl ?_
      refine z_icmp_ne (tgt := 27) dX7_hoursOf_15 (by decide) rfl (fun h3 => ?_) (fun h3 => ?_)
      · refine z_aload_n dX7_hoursOf_27 rfl rfl ?_
        refine z_gr7 (j := 21) dX7_hoursOf_28 (by decide) fl_X7_52 rfl rfl rfl ?_
        refine z_bipush (v := 16) dX7_hoursOf_31 (by decide) rfl ?_
        refine z_iload_n dX7_hoursOf_33 rfl rfl ?_
        refine z_iconst (v := 2) dX7_hoursOf_34 (by decide) rfl ?_
        refine z_isub dX7_hoursOf_35 rfl ?_
        refine z_imul dX7_hoursOf_36 rfl ?_
        refine z_iload_n dX7_hoursOf_37 rfl rfl ?_
        refine z_iadd dX7_hoursOf_38 rfl ?_
        refine z_iald dX7_hoursOf_39 (by first | rfl | exact knd_h (by omega) | exact knd_s (by omega)) (show 16 * (nI r - 2) + nI j = nI (16 * (r - 2) + j) by rw [show (2 : Int32) = nI 2 from rfl, show (16 : Int32) = nI 16 from rfl, pk_sub h2, pk_mul, nI_add]) (by omega) (by decide) rfl ?_
        exact z_ireturn dX7_hoursOf_40 rfl ⟨by unfold hrM; rw [if_neg (by omega), if_neg (by omega)], rfl⟩ (Nat.le_of_ble_eq_true rfl) (Nat.le_of_ble_eq_true rfl)
      · exact absurd ((nI_eq (show r < 2 ^ 31 by omega) (show 1 < 2 ^ 31 by decide)).mp h3) (by omega)
    · exact absurd ((nI_eq (show r < 2 ^ 31 by omega) (show 0 < 2 ^ 31 by decide)).mp h1) (by omega)
def hrsM (M : Mem) (r w : Int32) (n d : Nat) : Int32 × Mem :=
  if ixB w n then (if ixB r (d + 2) then (hrM M r.toNatClampNeg w.toNatClampNeg, mu M 99 0 0) else (0, mu (mu M 99 0 0) 99 0 2)) else (0, mu (mu M 99 0 0) 99 0 1)
set_option maxHeartbeats 4000000 in
theorem c_X7_hours {l : Launch} {E : EnT} (hst : l.stackTraces = false) (r w : Int32) (M : Mem) (n d : Nat) (hn : M 99 14 = nI n) (h16 : n ≤ 16) (hd : M 99 20 = nI d) (h20 : d ≤ 20) : Mm l E mX7_hours 1 0 0 [.ref 99, .int r, .int w] M (Rt (some (.int (hrsM M r w n d).1)) (hrsM M r w n d).2) := by
  refine Mm_go hst (by decide) rfl (Nat.le_of_ble_eq_true rfl) [some (.ref 99), some (.int r), some (.int w)] rfl ?_
  refine z_aload_n dX7_hours_0 rfl rfl ?_
  refine z_iconst (v := 0) dX7_hours_1 (by decide) rfl ?_
  refine z_pi7 (j := 0) dX7_hours_2 (by decide) fl_X7_79 rfl rfl rfl rfl rfl ?_
  refine z_aload_n dX7_hours_5 rfl rfl ?_
  refine z_aload_n dX7_hours_6 rfl rfl ?_
  refine z_iload_n dX7_hours_7 rfl rfl ?_
  refine z_cv1 (ci := 7) (nf := 32) (y := mX7_isWork) dX7_hours_8 ml_X7_164 iv_X7_isWork (Nat.le_of_ble_eq_true rfl) rfl (by decide) rfl (Nat.le_of_ble_eq_true rfl) (Nat.le_of_ble_eq_true rfl) (Nat.le_of_ble_eq_true rfl) (c_X7_isWork hst w (mu M 99 0 0) n hn h16) rfl ?_
  rcases ixB_cases w (n := n) (by omega) with ⟨hb, h⟩ | ⟨j, hj, rfl, hb⟩
  · rw [hb]
    refine z_if_ne (tgt := 18) dX7_hours_11 (by decide) rfl (fun h1 => ?_) (fun h1 => ?_)
    · exact absurd rfl h1
    · refine z_iconst (v := 1) dX7_hours_14 (by decide) rfl ?_
      refine z_goto (tgt := 19) dX7_hours_15 (by decide) ?_
      refine z_iconst (v := 1) dX7_hours_19 (by decide) rfl ?_
      refine z_cv2 (ci := 7) (nf := 32) (y := mX7_bad) dX7_hours_20 ml_X7_154 iv_X7_bad (Nat.le_of_ble_eq_true rfl) rfl (by decide) rfl (Nat.le_of_ble_eq_true rfl) (Nat.le_of_ble_eq_true rfl) (Nat.le_of_ble_eq_true rfl) (c_X7_bad1 hst 1 _) rfl ?_
      refine z_if_ne (tgt := 47) dX7_hours_23 (by decide) rfl (fun h2 => ?_) (fun h2 => ?_)
      · refine z_iconst (v := 0) dX7_hours_47 (by decide) rfl ?_
        refine z_goto (tgt := 57) dX7_hours_48 (by decide) ?_
        exact z_ireturn dX7_hours_57 rfl ⟨by simp [hrsM, hb], by simp [hrsM, hb]⟩ (Nat.le_of_ble_eq_true rfl) (Nat.le_of_ble_eq_true rfl)
      · exact absurd h2 (by decide)
  · rw [hb]
    refine z_if_ne (tgt := 18) dX7_hours_11 (by decide) rfl (fun h1 => ?_) (fun h1 => ?_)
    · refine z_iconst (v := 0) dX7_hours_18 (by decide) rfl ?_
      refine z_iconst (v := 1) dX7_hours_19 (by decide) rfl ?_
      refine z_cv2 (ci := 7) (nf := 32) (y := mX7_bad) dX7_hours_20 ml_X7_154 iv_X7_bad (Nat.le_of_ble_eq_true rfl) rfl (by decide) rfl (Nat.le_of_ble_eq_true rfl) (Nat.le_of_ble_eq_true rfl) (Nat.le_of_ble_eq_true rfl) (c_X7_bad0 hst 1 _) rfl ?_
      refine z_if_ne (tgt := 47) dX7_hours_23 (by decide) rfl (fun h2 => ?_) (fun h2 => ?_)
      · exact absurd rfl h2
      · refine z_aload_n dX7_hours_26 rfl rfl ?_
        refine z_aload_n dX7_hours_27 rfl rfl ?_
        refine z_iload_n dX7_hours_28 rfl rfl ?_
        refine z_cv1 (ci := 7) (nf := 32) (y := mX7_isRow) dX7_hours_29 ml_X7_172 iv_X7_isRow (Nat.le_of_ble_eq_true rfl) rfl (by decide) rfl (Nat.le_of_ble_eq_true rfl) (Nat.le_of_ble_eq_true rfl) (Nat.le_of_ble_eq_true rfl) (c_X7_isRow hst r (mu M 99 0 0) d hd h20) rfl ?_
        rcases ixB_cases r (n := d + 2) (by omega) with ⟨hr, h3⟩ | ⟨i, hi, rfl, hr⟩
        · rw [hr]
          refine z_if_ne (tgt := 39) dX7_hours_32 (by decide) rfl (fun h4 => ?_) (fun h4 => ?_)
          · exact absurd rfl h4
          · refine z_iconst (v := 1) dX7_hours_35 (by decide) rfl ?_
            refine z_goto (tgt := 40) dX7_hours_36 (by decide) ?_
            refine z_iconst (v := 2) dX7_hours_40 (by decide) rfl ?_
            refine z_cv2 (ci := 7) (nf := 32) (y := mX7_bad) dX7_hours_41 ml_X7_154 iv_X7_bad (Nat.le_of_ble_eq_true rfl) rfl (by decide) rfl (Nat.le_of_ble_eq_true rfl) (Nat.le_of_ble_eq_true rfl) (Nat.le_of_ble_eq_true rfl) (c_X7_bad1 hst 2 _) rfl ?_
            refine z_if_eq (tgt := 51) dX7_hours_44 (by decide) rfl (fun h5 => ?_) (fun h5 => ?_)
            · exact absurd h5 (by decide)
            · refine z_iconst (v := 0) dX7_hours_47 (by decide) rfl ?_
              refine z_goto (tgt := 57) dX7_hours_48 (by decide) ?_
              exact z_ireturn dX7_hours_57 rfl ⟨by simp [hrsM, hb, hr], by simp [hrsM, hb, hr]⟩ (Nat.le_of_ble_eq_true rfl) (Nat.le_of_ble_eq_true rfl)
        · rw [hr]
          refine z_if_ne (tgt := 39) dX7_hours_32 (by decide) rfl (fun h4 => ?_) (fun h4 => ?_)
          · refine z_iconst (v := 0) dX7_hours_39 (by decide) rfl ?_
            refine z_iconst (v := 2) dX7_hours_40 (by decide) rfl ?_
            refine z_cv2 (ci := 7) (nf := 32) (y := mX7_bad) dX7_hours_41 ml_X7_154 iv_X7_bad (Nat.le_of_ble_eq_true rfl) rfl (by decide) rfl (Nat.le_of_ble_eq_true rfl) (Nat.le_of_ble_eq_true rfl) (Nat.le_of_ble_eq_true rfl) (c_X7_bad0 hst 2 _) rfl ?_
            refine z_if_eq (tgt := 51) dX7_hours_44 (by decide) rfl (fun h5 => ?_) (fun h5 => ?_)
            · refine z_aload_n dX7_hours_51 rfl rfl ?_
              refine z_iload_n dX7_hours_52 rfl rfl ?_
              refine z_iload_n dX7_hours_53 rfl rfl ?_
              refine z_cv2 (ci := 7) (nf := 32) (y := mX7_hoursOf) dX7_hours_54 ml_X7_175 iv_X7_hoursOf (Nat.le_of_ble_eq_true rfl) rfl (by decide) rfl (Nat.le_of_ble_eq_true rfl) (Nat.le_of_ble_eq_true rfl) (Nat.le_of_ble_eq_true rfl) (c_X7_hoursOf hst i j (mu M 99 0 0) (by omega) (by omega)) rfl ?_
              exact z_ireturn dX7_hours_57 rfl ⟨by unfold hrsM; rw [if_pos hb, if_pos hr, nI_clamp (by omega), nI_clamp (by omega)]; rfl, by unfold hrsM; rw [if_pos hb, if_pos hr]⟩ (Nat.le_of_ble_eq_true rfl) (Nat.le_of_ble_eq_true rfl)
            · exact absurd rfl h5
          · exact absurd h4 (by decide)
    · exact absurd h1 (by decide)
def hrsC (M : Mem) (r w : Int32) (n d : Nat) : Option Value ⊕ String :=
  if ixB w n then (if ixB r (d + 2) then .inl (some (.int (M (r.toNatClampNeg + 55) w.toNatClampNeg))) else .inr xIA) else .inr xIO
set_option maxHeartbeats 4000000 in
theorem c_X6_hours {l : Launch} {E : EnT} (hst : l.stackTraces = false) (r w : Int32) (M : Mem) (n d : Nat) (hn : M 2 3 = nI n) (h16 : n ≤ 16) (hd : M 2 4 = nI d) (h20 : d ≤ 20) : Mm l E mX6_hours 6 1 6 [.ref 0, .int r, .int w] M (Rx (hrsC M r w n d) M) := by
  refine Mm_go hst (by decide) rfl (Nat.le_of_ble_eq_true rfl) [some (.ref 0), some (.int r), some (.int w)] rfl ?_
  refine z_aload_n dX6_hours_0 rfl rfl ?_
  refine z_gr6 (j := 1) dX6_hours_1 (by decide) fl_X6_19 rfl rfl rfl ?_
  refine z_iload_n dX6_hours_4 rfl rfl ?_
  refine z_cv1 (ci := 2) (nf := 11) (y := mX2_hasWork) dX6_hours_5 ml_X6_85 iv_X2_hasWork (Nat.le_of_ble_eq_true rfl) rfl (by decide) rfl (Nat.le_of_ble_eq_true rfl) (Nat.le_of_ble_eq_true rfl) (Nat.le_of_ble_eq_true rfl) (c_X2_hasWork hst w M n hn h16) rfl ?_
  rcases ixB_cases w (n := n) (by omega) with ⟨hb, h⟩ | ⟨j, hj, rfl, hb⟩
  · rw [hb]
    refine z_if_ne (tgt := 21) dX6_hours_8 (by decide) rfl (fun h1 => ?_) (fun h1 => ?_)
    · exact absurd rfl h1
    · exact z_throw (i := 10) rfl (Nat.le_of_ble_eq_true rfl) xok_IO (List.mem_of_getElem? (i := 18) rfl) dX6_hours_11 dX6_hours_14 dX6_hours_15 dX6_hours_17 dX6_hours_20 rfl rfl ⟨by simp [hrsC, hb]; rfl, rfl⟩
  · rw [hb]
    refine z_if_ne (tgt := 21) dX6_hours_8 (by decide) rfl (fun h1 => ?_) (fun h1 => ?_)
    · refine z_aload_n dX6_hours_21 rfl rfl ?_
      refine z_gr6 (j := 1) dX6_hours_22 (by decide) fl_X6_19 rfl rfl rfl ?_
      refine z_iload_n dX6_hours_25 rfl rfl ?_
      refine z_cv1 (ci := 2) (nf := 11) (y := mX2_hasRow) dX6_hours_26 ml_X6_132 iv_X2_hasRow (Nat.le_of_ble_eq_true rfl) rfl (by decide) rfl (Nat.le_of_ble_eq_true rfl) (Nat.le_of_ble_eq_true rfl) (Nat.le_of_ble_eq_true rfl) (c_X2_hasRow hst r M d hd h20) rfl ?_
      rcases ixB_cases r (n := d + 2) (by omega) with ⟨hr, h3⟩ | ⟨i, hi, rfl, hr⟩
      · rw [hr]
        refine z_if_ne (tgt := 42) dX6_hours_29 (by decide) rfl (fun h4 => ?_) (fun h4 => ?_)
        · exact absurd rfl h4
        · exact z_throw (i := 13) rfl (Nat.le_of_ble_eq_true rfl) xok_IA (List.mem_of_getElem? (i := 21) rfl) dX6_hours_32 dX6_hours_35 dX6_hours_36 dX6_hours_38 dX6_hours_41 rfl rfl ⟨by simp [hrsC, hb, hr]; rfl, rfl⟩
      · rw [hr]
        refine z_if_ne (tgt := 42) dX6_hours_29 (by decide) rfl (fun h4 => ?_) (fun h4 => ?_)
        · refine z_aload_n dX6_hours_42 rfl rfl ?_
          refine z_gr6 (j := 1) dX6_hours_43 (by decide) fl_X6_19 rfl rfl rfl ?_
          refine z_gr2 (j := 2) dX6_hours_46 (by decide) fl_X6_137 rfl rfl rfl ?_
          refine z_iload_n dX6_hours_49 rfl rfl ?_
          refine z_aldR dX6_hours_50 rfl rfl (by omega) (by decide) rfl ?_
          refine z_rowH dX6_hours_51 fl_X6_141 (by omega) rfl ?_
          refine z_iload_n dX6_hours_54 rfl rfl ?_
          refine z_iald dX6_hours_55 (by first | rfl | exact knd_h (by omega) | exact knd_s (by omega)) rfl (by omega) (by decide) rfl ?_
          exact z_ireturn dX6_hours_56 rfl ⟨by unfold hrsC; rw [if_pos hb, if_pos hr, nI_clamp (by omega), nI_clamp (by omega)], rfl⟩ (Nat.le_of_ble_eq_true rfl) (Nat.le_of_ble_eq_true rfl)
        · exact absurd h4 (by decide)
    · exact absurd h1 (by decide)
set_option maxHeartbeats 4000000 in
theorem c_X4_clear {l : Launch} {E : EnT} (hst : l.stackTraces = false) (M : Mem) : Mm l E mX4_clear 0 0 0 [.ref 6] M (Rt none (mu (mu (mu (mu (mu (mu (mu M 6 0 0) 6 1 0) 6 2 0) 6 3 0) 6 4 (-1)) 6 5 0) 6 6 0)) := by
  refine Mm_go hst (by decide) rfl (Nat.le_of_ble_eq_true rfl) [some (.ref 6)] rfl ?_
  refine z_aload_n dX4_clear_0 rfl rfl ?_
  refine z_iconst (v := 0) dX4_clear_1 (by decide) rfl ?_
  refine z_pi4 (j := 0) dX4_clear_2 (by decide) fl_X4_15 rfl rfl (by first | assumption | rfl | exact knd_w (by omega)) rfl rfl ?_
  refine z_aload_n dX4_clear_5 rfl rfl ?_
  refine z_iconst (v := 0) dX4_clear_6 (by decide) rfl ?_
  refine z_pi4 (j := 1) dX4_clear_7 (by decide) fl_X4_18 rfl rfl (by first | assumption | rfl | exact knd_w (by omega)) rfl rfl ?_
  refine z_aload_n dX4_clear_10 rfl rfl ?_
  refine z_iconst (v := 0) dX4_clear_11 (by decide) rfl ?_
  refine z_pi4 (j := 2) dX4_clear_12 (by decide) fl_X4_21 rfl rfl (by first | assumption | rfl | exact knd_w (by omega)) rfl rfl ?_
  refine z_aload_n dX4_clear_15 rfl rfl ?_
  refine z_iconst (v := 0) dX4_clear_16 (by decide) rfl ?_
  refine z_pi4 (j := 3) dX4_clear_17 (by decide) fl_X4_24 rfl rfl (by first | assumption | rfl | exact knd_w (by omega)) rfl rfl ?_
  refine z_aload_n dX4_clear_20 rfl rfl ?_
  refine z_iconst (v := (-1)) dX4_clear_21 (by decide) rfl ?_
  refine z_pi4 (j := 4) dX4_clear_22 (by decide) fl_X4_9 rfl rfl (by first | assumption | rfl | exact knd_w (by omega)) rfl rfl ?_
  refine z_aload_n dX4_clear_25 rfl rfl ?_
  refine z_iconst (v := 0) dX4_clear_26 (by decide) rfl ?_
  refine z_pi4 (j := 5) dX4_clear_27 (by decide) fl_X4_27 rfl rfl (by first | assumption | rfl | exact knd_w (by omega)) rfl rfl ?_
  refine z_aload_n dX4_clear_30 rfl rfl ?_
  refine z_iconst (v := 0) dX4_clear_31 (by decide) rfl ?_
  refine z_pi4 (j := 6) dX4_clear_32 (by decide) fl_X4_30 rfl rfl (by first | assumption | rfl | exact knd_w (by omega)) rfl rfl ?_
  exact z_return dX4_clear_35 rfl ⟨rfl, rfl⟩ (Nat.le_of_ble_eq_true rfl) (Nat.le_of_ble_eq_true rfl)
set_option maxHeartbeats 4000000 in
theorem c_X4_copyFrom {l : Launch} {E : EnT} (hst : l.stackTraces = false) (M : Mem) (k : Nat) (hk : knd k = (4, 7)) (hk6 : k ≠ 6) : Mm l E mX4_copyFrom 0 0 0 [.ref k, .ref 6] M (Rt none (fil M k 0 7 (M 6))) := by
  refine Mm_go hst (by decide) rfl (Nat.le_of_ble_eq_true rfl) [some (.ref k), some (.ref 6)] rfl ?_
  refine z_mem (N := fil M k 0 0 (M 6)) fil_0.symm ?_
  refine z_aload_n dX4_copyFrom_0 rfl rfl ?_
  refine z_aload_n dX4_copyFrom_1 rfl rfl ?_
  refine z_gi4 (j := 0) dX4_copyFrom_2 (by decide) fl_X4_15 (by first | assumption | rfl | exact knd_w (by omega)) rfl rfl ?_
  refine z_pi4 (j := 0) dX4_copyFrom_5 (by decide) fl_X4_15 rfl rfl (by first | assumption | rfl | exact knd_w (by omega)) rfl rfl ?_
  refine z_mem (N := fil M k 0 1 (M 6)) (fil_s' (by rw [fil_oc (Ne.symm hk6)]) rfl) ?_
  refine z_aload_n dX4_copyFrom_8 rfl rfl ?_
  refine z_aload_n dX4_copyFrom_9 rfl rfl ?_
  refine z_gi4 (j := 1) dX4_copyFrom_10 (by decide) fl_X4_18 (by first | assumption | rfl | exact knd_w (by omega)) rfl rfl ?_
  refine z_pi4 (j := 1) dX4_copyFrom_13 (by decide) fl_X4_18 rfl rfl (by first | assumption | rfl | exact knd_w (by omega)) rfl rfl ?_
  refine z_mem (N := fil M k 0 2 (M 6)) (fil_s' (by rw [fil_oc (Ne.symm hk6)]) rfl) ?_
  refine z_aload_n dX4_copyFrom_16 rfl rfl ?_
  refine z_aload_n dX4_copyFrom_17 rfl rfl ?_
  refine z_gi4 (j := 2) dX4_copyFrom_18 (by decide) fl_X4_21 (by first | assumption | rfl | exact knd_w (by omega)) rfl rfl ?_
  refine z_pi4 (j := 2) dX4_copyFrom_21 (by decide) fl_X4_21 rfl rfl (by first | assumption | rfl | exact knd_w (by omega)) rfl rfl ?_
  refine z_mem (N := fil M k 0 3 (M 6)) (fil_s' (by rw [fil_oc (Ne.symm hk6)]) rfl) ?_
  refine z_aload_n dX4_copyFrom_24 rfl rfl ?_
  refine z_aload_n dX4_copyFrom_25 rfl rfl ?_
  refine z_gi4 (j := 3) dX4_copyFrom_26 (by decide) fl_X4_24 (by first | assumption | rfl | exact knd_w (by omega)) rfl rfl ?_
  refine z_pi4 (j := 3) dX4_copyFrom_29 (by decide) fl_X4_24 rfl rfl (by first | assumption | rfl | exact knd_w (by omega)) rfl rfl ?_
  refine z_mem (N := fil M k 0 4 (M 6)) (fil_s' (by rw [fil_oc (Ne.symm hk6)]) rfl) ?_
  refine z_aload_n dX4_copyFrom_32 rfl rfl ?_
  refine z_aload_n dX4_copyFrom_33 rfl rfl ?_
  refine z_gi4 (j := 4) dX4_copyFrom_34 (by decide) fl_X4_9 (by first | assumption | rfl | exact knd_w (by omega)) rfl rfl ?_
  refine z_pi4 (j := 4) dX4_copyFrom_37 (by decide) fl_X4_9 rfl rfl (by first | assumption | rfl | exact knd_w (by omega)) rfl rfl ?_
  refine z_mem (N := fil M k 0 5 (M 6)) (fil_s' (by rw [fil_oc (Ne.symm hk6)]) rfl) ?_
  refine z_aload_n dX4_copyFrom_40 rfl rfl ?_
  refine z_aload_n dX4_copyFrom_41 rfl rfl ?_
  refine z_gi4 (j := 5) dX4_copyFrom_42 (by decide) fl_X4_27 (by first | assumption | rfl | exact knd_w (by omega)) rfl rfl ?_
  refine z_pi4 (j := 5) dX4_copyFrom_45 (by decide) fl_X4_27 rfl rfl (by first | assumption | rfl | exact knd_w (by omega)) rfl rfl ?_
  refine z_mem (N := fil M k 0 6 (M 6)) (fil_s' (by rw [fil_oc (Ne.symm hk6)]) rfl) ?_
  refine z_aload_n dX4_copyFrom_48 rfl rfl ?_
  refine z_aload_n dX4_copyFrom_49 rfl rfl ?_
  refine z_gi4 (j := 6) dX4_copyFrom_50 (by decide) fl_X4_30 (by first | assumption | rfl | exact knd_w (by omega)) rfl rfl ?_
  refine z_pi4 (j := 6) dX4_copyFrom_53 (by decide) fl_X4_30 rfl rfl (by first | assumption | rfl | exact knd_w (by omega)) rfl rfl ?_
  refine z_mem (N := fil M k 0 7 (M 6)) (fil_s' (by rw [fil_oc (Ne.symm hk6)]) rfl) ?_
  exact z_return dX4_copyFrom_56 rfl ⟨rfl, rfl⟩ (Nat.le_of_ble_eq_true rfl) (Nat.le_of_ble_eq_true rfl)
theorem pos_ne64 {x : Int32} (h : 0 < x) : ¬ x.toInt64 = 0 := fun q => by
  have q1 : x.toInt64.toInt = 0 := by rw [q]; rfl
  rw [Int32.toInt_toInt64] at q1
  rw [Int32.lt_iff_toInt_lt] at h
  have h0 : (0 : Int32).toInt = 0 := rfl
  omega
/-- a draw's hours -/
def dhr (le mo nz : Int32) : Int32 := le + ((nz.toInt64 &&& 4294967295) - (nz.toInt64 &&& 4294967295) / (mo - le + 1).toInt64 * (mo - le + 1).toInt64).toInt32
set_option maxHeartbeats 4000000 in
theorem c_X4_drawnHours {l : Launch} {E : EnT} (hst : l.stackTraces = false) (M : Mem) (z : Int32) (k : Nat) (hk : knd k = (4, 7)) (hw : 0 < M k 1 - M k 0 + 1) : Mm l E mX4_drawnHours 0 0 0 [.ref k, .int z] M (Rt (some (.int (dhr (M k 0) (M k 1) z))) M) := by
  refine Mm_go hst (by decide) rfl (Nat.le_of_ble_eq_true rfl) [some (.ref k), some (.int z), none] rfl ?_
  refine z_aload_n dX4_drawnHours_0 rfl rfl ?_
  refine z_gi4 (j := 1) dX4_drawnHours_1 (by decide) fl_X4_18 (by first | assumption | rfl | exact knd_w (by omega)) rfl rfl ?_
  refine z_aload_n dX4_drawnHours_4 rfl rfl ?_
  refine z_gi4 (j := 0) dX4_drawnHours_5 (by decide) fl_X4_15 (by first | assumption | rfl | exact knd_w (by omega)) rfl rfl ?_
  refine z_isub dX4_drawnHours_8 rfl ?_
  refine z_iconst (v := 1) dX4_drawnHours_9 (by decide) rfl ?_
  refine z_iadd dX4_drawnHours_10 rfl ?_
  refine z_ist2 dX4_drawnHours_11 (Nat.le_of_ble_eq_true rfl) rfl ?_
  refine z_iload_n dX4_drawnHours_12 rfl rfl ?_
  refine z_if_gt (tgt := 23) dX4_drawnHours_13 (by decide) rfl (fun h1 => ?_) (fun h1 => ?_)
  · refine z_aload_n dX4_drawnHours_23 rfl rfl ?_
    refine z_gi4 (j := 0) dX4_drawnHours_24 (by decide) fl_X4_15 (by first | assumption | rfl | exact knd_w (by omega)) rfl rfl ?_
    refine z_iload_n dX4_drawnHours_27 rfl rfl ?_
    refine z_i2l dX4_drawnHours_28 rfl ?_
    refine z_ldc2 dX4_drawnHours_29 co_X4_33 rfl ?_
    refine z_land dX4_drawnHours_32 rfl ?_
    refine z_iload_n dX4_drawnHours_33 rfl rfl ?_
    refine z_i2l dX4_drawnHours_34 rfl ?_
    refine z_lrem dX4_drawnHours_35 ?_ rfl ?_
    · exact pos_ne64 hw
    refine z_l2i dX4_drawnHours_36 rfl ?_
    refine z_iadd dX4_drawnHours_37 rfl ?_
    exact z_ireturn dX4_drawnHours_38 rfl ⟨rfl, rfl⟩ (Nat.le_of_ble_eq_true rfl) (Nat.le_of_ble_eq_true rfl)
  · exact absurd hw h1
theorem nI_dec (k : Nat) : (nI (k + 2)) - 2 = nI k := by rw [show (2 : Int32) = nI 2 from rfl, pk_sub (by omega), Nat.add_sub_cancel]
set_option maxHeartbeats 4000000 in
theorem c_X2_addDraw {l : Launch} {E : EnT} (hst : l.stackTraces = false) (M : Mem) (n d : Nat) (hn : M 2 3 = nI n) (h16 : n ≤ 16) (hd : M 2 4 = nI d) (h20 : d < 20) (hwd : ∀ w, w < n → 0 < M (w + 17) 1 - M (w + 17) 0 + 1) : Mm l E mX2_addDraw 1 0 0 [.ref 2, .ref 5] M (Rt (some (.int (nI (d + 2)))) (mu (fil M (d + 57) 0 n (fun w => dhr (M (w + 17) 0) (M (w + 17) 1) (M 5 w))) 2 4 (nI (d + 1)))) := by
  refine Mm_go hst (by decide) rfl (Nat.le_of_ble_eq_true rfl) [some (.ref 2), some (.ref 5), none, none] rfl ?_
  refine z_iconst (v := 2) dX2_addDraw_0 (by decide) rfl ?_
  refine z_aload_n dX2_addDraw_1 rfl rfl ?_
  refine z_gi2 (j := 4) dX2_addDraw_2 (by decide) fl_X2_31 rfl rfl rfl ?_
  refine z_iadd dX2_addDraw_5 rfl ?_
  refine z_tp (b := (nI (d + 2))) (by rw [hd, show (2 : Int32) = nI 2 from rfl, nI_add, Nat.add_comm]) ?_
  refine z_ist2 dX2_addDraw_6 (Nat.le_of_ble_eq_true rfl) rfl ?_
  refine z_iconst (v := 0) dX2_addDraw_7 (by decide) rfl ?_
  refine z_ist3 dX2_addDraw_8 (Nat.le_of_ble_eq_true rfl) rfl ?_
  generalize hF : (fun w => dhr (M (w + 17) 0) (M (w + 17) 1) (M 5 w)) = F
  have loop : ∀ (k j : Nat), j + k = n → Zz (zx l E mX2_addDraw 1 (Rt (some (.int (nI (d + 2)))) (mu (fil M (d + 57) 0 n F) 2 4 (nI (d + 1))))) 0 0 9 [some (.ref 2), some (.ref 5), some (.int (nI (d + 2))), some (.int (nI j))] [] (fil M (d + 57) 0 j F) := by
    intro k
    induction k with
    | zero =>
      intro j hj
      have e : j = n := by omega
      subst e
      have e1 : fil M (d + 57) 0 j F 2 3 = nI j := by rw [fil_o (by omega)]; exact hn
      have e2 : fil M (d + 57) 0 j F 2 4 = nI d := by rw [fil_o (by omega)]; exact hd
      refine z_iload_n dX2_addDraw_9 rfl rfl ?_
      refine z_aload_n dX2_addDraw_10 rfl rfl ?_
      refine z_gi2 (j := 3) dX2_addDraw_11 (by decide) fl_X2_27 rfl rfl rfl ?_
      refine z_icmp_ge (tgt := 46) dX2_addDraw_14 (by decide) rfl (fun hc => ?_) (fun hc => ?_)
      · refine z_aload_n dX2_addDraw_46 rfl rfl ?_
        refine z_dup dX2_addDraw_47 rfl rfl ?_
        refine z_gi2 (j := 4) dX2_addDraw_48 (by decide) fl_X2_31 rfl rfl rfl ?_
        refine z_iconst (v := 1) dX2_addDraw_51 (by decide) rfl ?_
        refine z_iadd dX2_addDraw_52 rfl ?_
        refine z_pi2 (j := 4) dX2_addDraw_53 (by decide) fl_X2_31 rfl rfl rfl rfl rfl ?_
        refine z_mem (N := mu (fil M (d + 57) 0 j F) 2 4 (nI (d + 1))) (by rw [← nI_1 d, ← e2]) ?_
        refine z_iload_n dX2_addDraw_56 rfl rfl ?_
        exact z_ireturn dX2_addDraw_57 rfl ⟨rfl, rfl⟩ (Nat.le_of_ble_eq_true rfl) (Nat.le_of_ble_eq_true rfl)
      · exact absurd (by rw [e1]; exact nI_le (Nat.le_refl _) (by omega)) hc
    | succ k ih =>
      intro j hj
      have e1 : fil M (d + 57) 0 j F 2 3 = nI n := by rw [fil_o (by omega)]; exact hn
      refine z_iload_n dX2_addDraw_9 rfl rfl ?_
      refine z_aload_n dX2_addDraw_10 rfl rfl ?_
      refine z_gi2 (j := 3) dX2_addDraw_11 (by decide) fl_X2_27 rfl rfl rfl ?_
      refine z_icmp_ge (tgt := 46) dX2_addDraw_14 (by decide) rfl (fun hc => ?_) (fun hc => ?_)
      · exact absurd hc (by rw [e1]; exact nI_ge (by omega) (by omega))
      · have w0 : ∀ i, fil M (d + 57) 0 j F (j + 17) i = M (j + 17) i := fun i => fil_o (by omega)
        have w5 : fil M (d + 57) 0 j F 5 j = M 5 j := fil_o (by omega)
        refine z_aload_n dX2_addDraw_17 rfl rfl ?_
        refine z_gr2 (j := 2) dX2_addDraw_18 (by decide) fl_X2_23 rfl rfl rfl ?_
        refine z_iload_n dX2_addDraw_21 rfl rfl ?_
        refine z_aldR dX2_addDraw_22 rfl rfl (by omega) (by decide) rfl ?_
        refine z_rowH dX2_addDraw_23 fl_X2_46 (by omega) rfl ?_
        refine z_iload_n dX2_addDraw_26 rfl rfl ?_
        refine z_aload_n dX2_addDraw_27 rfl rfl ?_
        refine z_gr2 (j := 0) dX2_addDraw_28 (by decide) fl_X2_11 rfl rfl rfl ?_
        refine z_iload_n dX2_addDraw_31 rfl rfl ?_
        refine z_aldW dX2_addDraw_32 rfl rfl (by omega) (by decide) rfl ?_
        refine z_aload_n dX2_addDraw_33 rfl rfl ?_
        refine z_iload_n dX2_addDraw_34 rfl rfl ?_
        refine z_iald dX2_addDraw_35 (by first | rfl | exact knd_h (by omega) | exact knd_s (by omega)) rfl (by omega) (by decide) rfl ?_
        refine z_cv1 (ci := 4) (nf := 7) (y := mX4_drawnHours) dX2_addDraw_36 ml_X2_55 iv_X4_drawnHours (Nat.le_of_ble_eq_true rfl) rfl (by decide) (by first | assumption | rfl | exact knd_w (by omega)) (Nat.le_of_ble_eq_true rfl) (Nat.le_of_ble_eq_true rfl) (Nat.le_of_ble_eq_true rfl) (c_X4_drawnHours hst (fil M (d + 57) 0 j F) _ (j + 17) (knd_w (by omega)) (by rw [w0, w0]; exact hwd j (by omega))) rfl ?_
        refine z_iast dX2_addDraw_39 (by first | rfl | exact knd_h (by omega) | exact knd_s (by omega)) rfl (by omega) (by decide) rfl ?_
        refine z_mem (N := fil M (d + 57) 0 (j + 1) F) (fil_s' (by rw [w0, w0, w5, ← hF]) (by omega)) ?_
        first | refine z_iu3 dX2_addDraw_40 (Nat.le_of_ble_eq_true rfl) rfl ?_ | refine z_inc3 dX2_addDraw_40 (Nat.le_of_ble_eq_true rfl) rfl rfl ?_
        refine z_goto (tgt := 9) dX2_addDraw_43 (by decide) ?_
        exact ih (j + 1) (by omega)
  refine z_mem (N := fil M (d + 57) 0 0 F) fil_0.symm (loop n 0 (by omega))
/-- the class's draw -/
def drwC (M : Mem) (n d c : Nat) : Int32 × Mem :=
  if d = 20 then (-1, M) else if c < n then (-2, M) else (nI (d + 2), mu (fil (mu M 0 5 0) (d + 57) 0 n (fun w => dhr (M (w + 17) 0) (M (w + 17) 1) (M 5 w))) 2 4 (nI (d + 1)))
set_option maxHeartbeats 4000000 in
theorem c_X6_draw {l : Launch} {E : EnT} (hst : l.stackTraces = false) (M : Mem) (n d c : Nat) (hn : M 2 3 = nI n) (h16 : n ≤ 16) (hd : M 2 4 = nI d) (h20 : d ≤ 20) (hc0 : M 0 5 = nI c) (hc20 : c ≤ 20) (hwd : ∀ w, w < n → 0 < M (w + 17) 1 - M (w + 17) 0 + 1) : Mm l E mX6_draw 2 0 0 [.ref 0] M (Rt (some (.int (drwC M n d c).1)) (drwC M n d c).2) := by
  refine Mm_go hst (by decide) rfl (Nat.le_of_ble_eq_true rfl) [some (.ref 0)] rfl ?_
  refine z_aload_n dX6_draw_0 rfl rfl ?_
  refine z_gr6 (j := 1) dX6_draw_1 (by decide) fl_X6_19 rfl rfl rfl ?_
  refine z_gi2 (j := 4) dX6_draw_4 (by decide) fl_X6_125 rfl rfl rfl ?_
  refine z_bipush (v := 20) dX6_draw_7 (by decide) rfl ?_
  refine z_icmp_lt (tgt := 14) dX6_draw_9 (by decide) rfl (fun h1 => ?_) (fun h1 => ?_)
  · have hd20 : d ≠ 20 := fun q => by rw [hd, q] at h1; exact absurd h1 (by decide)
    refine z_aload_n dX6_draw_14 rfl rfl ?_
    refine z_gi6 (j := 5) dX6_draw_15 (by decide) fl_X6_41 rfl rfl rfl ?_
    refine z_aload_n dX6_draw_18 rfl rfl ?_
    refine z_gr6 (j := 1) dX6_draw_19 (by decide) fl_X6_19 rfl rfl rfl ?_
    refine z_gi2 (j := 3) dX6_draw_22 (by decide) fl_X6_62 rfl rfl rfl ?_
    refine z_icmp_ge (tgt := 31) dX6_draw_25 (by decide) rfl (fun h2 => ?_) (fun h2 => ?_)
    · have hcn : ¬ c < n := by
        rw [hn, hc0] at h2
        have := le_nn h2 (by omega) (by omega)
        omega
      have ww : ∀ w, w < n → ∀ i, mu M 0 5 0 (w + 17) i = M (w + 17) i := fun w hw i => by rw [mu_o (by omega)]
      refine z_aload_n dX6_draw_31 rfl rfl ?_
      refine z_iconst (v := 0) dX6_draw_32 (by decide) rfl ?_
      refine z_pi6 (j := 5) dX6_draw_33 (by decide) fl_X6_41 rfl rfl rfl rfl rfl ?_
      refine z_aload_n dX6_draw_36 rfl rfl ?_
      refine z_gr6 (j := 1) dX6_draw_37 (by decide) fl_X6_19 rfl rfl rfl ?_
      refine z_aload_n dX6_draw_40 rfl rfl ?_
      refine z_gr6 (j := 4) dX6_draw_41 (by decide) fl_X6_37 rfl rfl rfl ?_
      refine z_cv1 (ci := 2) (nf := 11) (y := mX2_addDraw) dX6_draw_44 ml_X6_128 iv_X2_addDraw (Nat.le_of_ble_eq_true rfl) rfl (by decide) rfl (Nat.le_of_ble_eq_true rfl) (Nat.le_of_ble_eq_true rfl) (Nat.le_of_ble_eq_true rfl) (c_X2_addDraw hst (mu M 0 5 0) n d hn h16 hd (by omega) (fun w hw => by rw [ww w hw, ww w hw]; exact hwd w hw)) rfl ?_
      exact z_ireturn dX6_draw_47 rfl ⟨by simp [drwC, hd20, hcn], by simp only [drwC, if_neg hd20, if_neg hcn]; rw [fil_cg (fun i hi => by rw [ww i hi, ww i hi])]; rfl⟩ (Nat.le_of_ble_eq_true rfl) (Nat.le_of_ble_eq_true rfl)
    · have hcn : c < n := by
        rw [hn, hc0] at h2
        exact nle_nn h2 (by omega) (by omega)
      refine z_bipush (v := (-2)) dX6_draw_28 (by decide) rfl ?_
      exact z_ireturn dX6_draw_30 rfl ⟨by simp [drwC, hd20, hcn], by simp [drwC, hd20, hcn]⟩ (Nat.le_of_ble_eq_true rfl) (Nat.le_of_ble_eq_true rfl)
  · have hd20 : d = 20 := by
      rw [hd] at h1
      have := nlt_nn (a := d) (b := 20) h1 (by omega) (by decide)
      omega
    refine z_iconst (v := (-1)) dX6_draw_12 (by decide) rfl ?_
    exact z_ireturn dX6_draw_13 rfl ⟨by simp [drwC, hd20], by simp [drwC, hd20]⟩ (Nat.le_of_ble_eq_true rfl) (Nat.le_of_ble_eq_true rfl)
/-- the reference's draw -/
def drwM (M : Mem) (n d c : Nat) : Int32 × Mem :=
  if d = 20 then (-1, mu M 99 0 0) else if c < n then (-2, mu M 99 0 0) else (nI (d + 2), mu (mu (fil (mu M 99 0 0) 110 (16 * d) n (fun w => dhr (M 101 w) (M 102 w) (M 109 w))) 99 19 0) 99 20 (nI (d + 1)))
set_option maxHeartbeats 4000000 in
theorem c_X7_draw {l : Launch} {E : EnT} (hst : l.stackTraces = false) (M0 : Mem) (n d c : Nat) (hn0 : M0 99 14 = nI n) (h16 : n ≤ 16) (hd0 : M0 99 20 = nI d) (h20 : d ≤ 20) (hc0 : M0 99 19 = nI c) (hc20 : c ≤ 20) (hwd0 : ∀ w, w < n → 0 < M0 102 w - M0 101 w + 1) : Mm l E mX7_draw 0 0 0 [.ref 99] M0 (Rt (some (.int (drwM M0 n d c).1)) (drwM M0 n d c).2) := by
  refine Mm_go hst (by decide) rfl (Nat.le_of_ble_eq_true rfl) [some (.ref 99), none] rfl ?_
  refine z_aload_n dX7_draw_0 rfl rfl ?_
  refine z_iconst (v := 0) dX7_draw_1 (by decide) rfl ?_
  refine z_pi7 (j := 0) dX7_draw_2 (by decide) fl_X7_79 rfl rfl rfl rfl rfl ?_
  have hR : drwM M0 n d c = if d = 20 then (-1, mu M0 99 0 0) else if c < n then (-2, mu M0 99 0 0) else (nI (d + 2), mu (mu (fil (mu M0 99 0 0) 110 (16 * d) n (fun w => dhr (mu M0 99 0 0 101 w) (mu M0 99 0 0 102 w) (mu M0 99 0 0 109 w))) 99 19 0) 99 20 (nI (d + 1))) := rfl
  rw [hR]
  have hn : mu M0 99 0 0 99 14 = nI n := hn0
  have hd : mu M0 99 0 0 99 20 = nI d := hd0
  have hc : mu M0 99 0 0 99 19 = nI c := hc0
  have hwd : ∀ w, w < n → 0 < mu M0 99 0 0 102 w - mu M0 99 0 0 101 w + 1 := hwd0
  generalize mu M0 99 0 0 = M at hn hd hc hwd ⊢
  refine z_aload_n dX7_draw_5 rfl rfl ?_
  refine z_gi7 (j := 20) dX7_draw_6 (by decide) fl_X7_161 rfl rfl rfl ?_
  refine z_bipush (v := 20) dX7_draw_9 (by decide) rfl ?_
  refine z_icmp_ne (tgt := 16) dX7_draw_11 (by decide) rfl (fun h1 => ?_) (fun h1 => ?_)
  · have hd20 : d ≠ 20 := fun q => h1 (by rw [hd, q]; rfl)
    simp only [if_neg hd20]
    refine z_aload_n dX7_draw_16 rfl rfl ?_
    refine z_gi7 (j := 19) dX7_draw_17 (by decide) fl_X7_167 rfl rfl rfl ?_
    refine z_aload_n dX7_draw_20 rfl rfl ?_
    refine z_gi7 (j := 14) dX7_draw_21 (by decide) fl_X7_144 rfl rfl rfl ?_
    refine z_icmp_ge (tgt := 30) dX7_draw_24 (by decide) rfl (fun h2 => ?_) (fun h2 => ?_)
    · have hcn : ¬ c < n := by
        rw [hn, hc] at h2
        have := le_nn h2 (by omega) (by omega)
        omega
      simp only [if_neg hcn]
      refine z_iconst (v := 0) dX7_draw_30 (by decide) rfl ?_
      refine z_ist1 dX7_draw_31 (Nat.le_of_ble_eq_true rfl) rfl ?_
      generalize hF : (fun w => dhr (M 101 w) (M 102 w) (M 109 w)) = F
      have loop : ∀ (k j : Nat), j + k = n → Zz (zx l E mX7_draw 0 (Rt (some (.int (nI (d + 2)))) (mu (mu (fil M 110 (16 * d) n F) 99 19 0) 99 20 (nI (d + 1))))) 0 0 32 [some (.ref 99), some (.int (nI j))] [] (fil M 110 (16 * d) j F) := by
        intro k
        induction k with
        | zero =>
          intro j hj
          have e : j = n := by omega
          subst e
          refine z_iload_n dX7_draw_32 rfl rfl ?_
          refine z_aload_n dX7_draw_33 rfl rfl ?_
          refine z_gi7 (j := 14) dX7_draw_34 (by decide) fl_X7_144 rfl rfl rfl ?_
          refine z_icmp_ge (tgt := 96) dX7_draw_37 (by decide) rfl (fun hq => ?_) (fun hq => ?_)
          · refine z_aload_n dX7_draw_96 rfl rfl ?_
            refine z_iconst (v := 0) dX7_draw_97 (by decide) rfl ?_
            refine z_pi7 (j := 19) dX7_draw_98 (by decide) fl_X7_167 rfl rfl rfl rfl rfl ?_
            refine z_aload_n dX7_draw_101 rfl rfl ?_
            refine z_dup dX7_draw_102 rfl rfl ?_
            refine z_gi7 (j := 20) dX7_draw_103 (by decide) fl_X7_161 rfl rfl rfl ?_
            refine z_iconst (v := 1) dX7_draw_106 (by decide) rfl ?_
            refine z_iadd dX7_draw_107 rfl ?_
            refine z_pi7 (j := 20) dX7_draw_108 (by decide) fl_X7_161 rfl rfl rfl rfl rfl ?_
            refine z_mem (N := mu (mu (fil M 110 (16 * d) j F) 99 19 0) 99 20 (nI (d + 1))) (by rw [← nI_1 d, ← hd]; rfl) ?_
            refine z_aload_n dX7_draw_111 rfl rfl ?_
            refine z_gi7 (j := 20) dX7_draw_112 (by decide) fl_X7_161 rfl rfl rfl ?_
            refine z_iconst (v := 1) dX7_draw_115 (by decide) rfl ?_
            refine z_iadd dX7_draw_116 rfl ?_
            exact z_ireturn dX7_draw_117 rfl ⟨by rw [show d + 2 = d + 1 + 1 from rfl, ← nI_1 (d + 1)]; rfl, rfl⟩ (Nat.le_of_ble_eq_true rfl) (Nat.le_of_ble_eq_true rfl)
          · exact absurd (by rw [show fil M 110 (16 * d) j F 99 14 = nI j from hn]; exact nI_le (Nat.le_refl _) (by omega)) hq
        | succ k ih =>
          intro j hj
          refine z_iload_n dX7_draw_32 rfl rfl ?_
          refine z_aload_n dX7_draw_33 rfl rfl ?_
          refine z_gi7 (j := 14) dX7_draw_34 (by decide) fl_X7_144 rfl rfl rfl ?_
          refine z_icmp_ge (tgt := 96) dX7_draw_37 (by decide) rfl (fun hq => ?_) (fun hq => ?_)
          · exact absurd hq (by rw [show fil M 110 (16 * d) j F 99 14 = nI n from hn]; exact nI_ge (by omega) (by omega))
          · refine z_aload_n dX7_draw_40 rfl rfl ?_
            refine z_gr7 (j := 21) dX7_draw_41 (by decide) fl_X7_52 rfl rfl rfl ?_
            refine z_bipush (v := 16) dX7_draw_44 (by decide) rfl ?_
            refine z_aload_n dX7_draw_46 rfl rfl ?_
            refine z_gi7 (j := 20) dX7_draw_47 (by decide) fl_X7_161 rfl rfl rfl ?_
            refine z_imul dX7_draw_50 rfl ?_
            refine z_iload_n dX7_draw_51 rfl rfl ?_
            refine z_iadd dX7_draw_52 rfl ?_
            refine z_aload_n dX7_draw_53 rfl rfl ?_
            refine z_gr7 (j := 7) dX7_draw_54 (by decide) fl_X7_17 rfl rfl rfl ?_
            refine z_iload_n dX7_draw_57 rfl rfl ?_
            refine z_iald dX7_draw_58 (by first | rfl | exact knd_h (by omega) | exact knd_s (by omega)) rfl (by omega) (by decide) rfl ?_
            refine z_aload_n dX7_draw_59 rfl rfl ?_
            refine z_gr7 (j := 18) dX7_draw_60 (by decide) fl_X7_49 rfl rfl rfl ?_
            refine z_iload_n dX7_draw_63 rfl rfl ?_
            refine z_iald dX7_draw_64 (by first | rfl | exact knd_h (by omega) | exact knd_s (by omega)) rfl (by omega) (by decide) rfl ?_
            refine z_i2l dX7_draw_65 rfl ?_
            refine z_ldc2 dX7_draw_66 co_X7_170 rfl ?_
            refine z_land dX7_draw_69 rfl ?_
            refine z_aload_n dX7_draw_70 rfl rfl ?_
            refine z_gr7 (j := 8) dX7_draw_71 (by decide) fl_X7_21 rfl rfl rfl ?_
            refine z_iload_n dX7_draw_74 rfl rfl ?_
            refine z_iald dX7_draw_75 (by first | rfl | exact knd_h (by omega) | exact knd_s (by omega)) rfl (by omega) (by decide) rfl ?_
            refine z_aload_n dX7_draw_76 rfl rfl ?_
            refine z_gr7 (j := 7) dX7_draw_77 (by decide) fl_X7_17 rfl rfl rfl ?_
            refine z_iload_n dX7_draw_80 rfl rfl ?_
            refine z_iald dX7_draw_81 (by first | rfl | exact knd_h (by omega) | exact knd_s (by omega)) rfl (by omega) (by decide) rfl ?_
            refine z_isub dX7_draw_82 rfl ?_
            refine z_iconst (v := 1) dX7_draw_83 (by decide) rfl ?_
            refine z_iadd dX7_draw_84 rfl ?_
            refine z_i2l dX7_draw_85 rfl ?_
            refine z_lrem dX7_draw_86 ?_ rfl ?_
            · exact pos_ne64 (hwd j (by omega))
            refine z_l2i dX7_draw_87 rfl ?_
            refine z_iadd dX7_draw_88 rfl ?_
            refine z_iast dX7_draw_89 (by first | rfl | exact knd_h (by omega) | exact knd_s (by omega)) (show 16 * fil M 110 (16 * d) j F 99 20 + nI j = nI (16 * d + j) by rw [show fil M 110 (16 * d) j F 99 20 = nI d from hd, show (16 : Int32) = nI 16 from rfl, pk_mul, nI_add]) (by omega) (by decide) rfl ?_
            refine z_mem (N := fil M 110 (16 * d) (j + 1) F) (fil_s' (by rw [← hF]; rfl) rfl) ?_
            first | refine z_iu1 dX7_draw_90 (Nat.le_of_ble_eq_true rfl) rfl ?_ | refine z_inc1 dX7_draw_90 (Nat.le_of_ble_eq_true rfl) rfl rfl ?_
            refine z_goto (tgt := 32) dX7_draw_93 (by decide) ?_
            exact ih (j + 1) (by omega)
      refine z_mem (N := fil M 110 (16 * d) 0 F) fil_0.symm (loop n 0 (by omega))
    · have hcn : c < n := by
        rw [hn, hc] at h2
        exact nle_nn h2 (by omega) (by omega)
      simp only [if_pos hcn]
      refine z_bipush (v := (-2)) dX7_draw_27 (by decide) rfl ?_
      exact z_ireturn dX7_draw_29 rfl ⟨rfl, rfl⟩ (Nat.le_of_ble_eq_true rfl) (Nat.le_of_ble_eq_true rfl)
  · have hd20 : d = 20 := (nI_eq (by omega) (by decide)).mp (hd.symm.trans h1)
    simp only [if_pos hd20]
    refine z_iconst (v := (-1)) dX7_draw_14 (by decide) rfl ?_
    exact z_ireturn dX7_draw_15 rfl ⟨rfl, rfl⟩ (Nat.le_of_ble_eq_true rfl) (Nat.le_of_ble_eq_true rfl)
