/-! the reference's PART, ON, OFF, last -/
def ltN (lim : Nat) : Option Nat → Nat
  | some x => x - lim
  | none => 0
set_option maxHeartbeats 4000000 in
theorem c_X7_late {l : Launch} {E : EnT} (hst : l.stackTraces = false) (M : Mem) (o : Option Nat) (lim : Nat) (hlm : M 99 16 = nI lim) (hl : lim ≤ 1000) (ho : ∀ x, o = some x → x ≤ 100000) : Mm l E mX7_late 0 0 0 [.ref 99, .int (enI o)] M (Rt (some (.int (nI (ltN lim o)))) M) := by
  refine Mm_go hst (by decide) rfl (Nat.le_of_ble_eq_true rfl) [some (.ref 99), some (.int (enI o))] rfl ?_
  cases o with
  | none =>
    refine z_iload_n dX7_late_0 rfl rfl ?_
    refine z_aload_n dX7_late_1 rfl rfl ?_
    refine z_gi7 (j := 16) dX7_late_2 (by decide) fl_X7_42 rfl rfl rfl ?_
    refine z_icmp_le (tgt := 17) dX7_late_5 (by decide) rfl (fun h1 => ?_) (fun h1 => ?_)
    · refine z_iconst (v := 0) dX7_late_17 (by decide) rfl ?_
      exact z_ireturn dX7_late_18 rfl ⟨rfl, rfl⟩ (Nat.le_of_ble_eq_true rfl) (Nat.le_of_ble_eq_true rfl)
    · exact absurd (by rw [hlm, Int32.le_iff_toInt_le, nI_toInt (by omega)]; show (-1 : Int) ≤ _; omega) h1
  | some x =>
    have hx := ho x rfl
    refine z_iload_n dX7_late_0 rfl rfl ?_
    refine z_aload_n dX7_late_1 rfl rfl ?_
    refine z_gi7 (j := 16) dX7_late_2 (by decide) fl_X7_42 rfl rfl rfl ?_
    refine z_icmp_le (tgt := 17) dX7_late_5 (by decide) rfl (fun h1 => ?_) (fun h1 => ?_)
    · rw [hlm] at h1
      have := le_nn (a := x) h1 (by omega) (by omega)
      refine z_iconst (v := 0) dX7_late_17 (by decide) rfl ?_
      exact z_ireturn dX7_late_18 rfl ⟨by simp only [ltN]; rw [show x - lim = 0 by omega]; rfl, rfl⟩ (Nat.le_of_ble_eq_true rfl) (Nat.le_of_ble_eq_true rfl)
    · rw [hlm] at h1
      have := nle_nn (a := x) h1 (by omega) (by omega)
      refine z_iload_n dX7_late_8 rfl rfl ?_
      refine z_aload_n dX7_late_9 rfl rfl ?_
      refine z_gi7 (j := 16) dX7_late_10 (by decide) fl_X7_42 rfl rfl rfl ?_
      refine z_isub dX7_late_13 rfl ?_
      refine z_goto (tgt := 18) dX7_late_14 (by decide) ?_
      exact z_ireturn dX7_late_18 rfl ⟨by rw [hlm]; simp only [ltN]; rw [← pk_sub (by omega)]; rfl, rfl⟩ (Nat.le_of_ble_eq_true rfl) (Nat.le_of_ble_eq_true rfl)
def Se (a b : Nat) : Prop := a = 111 ∨ a = 112 ∨ a = 115 ∨ (a = 99 ∧ b = 0)
theorem Sm_Se {a b : Nat} (h : Sm a b) : Se a b := by unfold Sm at h; unfold Se; omega
theorem hrM_keepE {M N : Mem} {r w : Nat} (he : Eqx Se M N) : hrM N r w = hrM M r w := by
  unfold hrM
  rw [he 101 w (by unfold Se; omega), he 102 w (by unfold Se; omega), he 110 (16 * (r - 2) + w) (by unfold Se; omega)]
theorem WM.keepE {P : Pb} {M N : Mem} {r : Nat} (h : WM P M r) (he : Eqx Se M N) : WM P N r := by
  obtain ⟨h1, h2, h3, h4, h5⟩ := h
  refine ⟨by rw [he 99 14 (by unfold Se; omega)]; exact h1, h2, by rw [he 99 15 (by unfold Se; omega)]; exact h3, h4, fun w hw => ?_⟩
  obtain ⟨g1, g2, g3, g4, g5, g6, g7⟩ := h5 w hw
  exact ⟨by rw [he 104 w (by unfold Se; omega)]; exact g1, g2, by rw [he 103 w (by unfold Se; omega)]; exact g3, g4, by rw [he 106 w (by unfold Se; omega)]; exact g5, by rw [hrM_keepE he]; exact g6, g7⟩
set_option maxHeartbeats 4000000 in
theorem c_X7_end {l : Launch} {E : EnT} (hst : l.stackTraces = false) (M : Mem) (B : Bw) (od : Nat → Nat) (dr : Nat) (x : Int32) (hd : M 99 20 = nI dr) (h20 : dr ≤ 20) (hW : ∀ r, r < dr + 2 → WM (rowP B r) M r) (hod : ∀ k, k < B.1 → M 107 k = nI (od k) ∧ od k < B.1) : Mm l E mX7_end 2 0 0 [.ref 99, .int x] M (RP (some (.int (if ixB x (dr + 2) then enI (endS (rowP B x.toNatClampNeg) od) else 0))) (fun N => Eqx Se M N ∧ N 99 0 = if ixB x (dr + 2) then 0 else 1)) := by
  refine Mm_go hst (by decide) rfl (Nat.le_of_ble_eq_true rfl) [some (.ref 99), some (.int x)] rfl ?_
  refine z_aload_n dX7_end_0 rfl rfl ?_
  refine z_iconst (v := 0) dX7_end_1 (by decide) rfl ?_
  refine z_pi7 (j := 0) dX7_end_2 (by decide) fl_X7_79 rfl rfl rfl rfl rfl ?_
  refine z_aload_n dX7_end_5 rfl rfl ?_
  refine z_aload_n dX7_end_6 rfl rfl ?_
  refine z_iload_n dX7_end_7 rfl rfl ?_
  refine z_cv1 (ci := 7) (nf := 32) (y := mX7_isRow) dX7_end_8 ml_X7_172 iv_X7_isRow (Nat.le_of_ble_eq_true rfl) rfl (by decide) rfl (Nat.le_of_ble_eq_true rfl) (Nat.le_of_ble_eq_true rfl) (Nat.le_of_ble_eq_true rfl) (c_X7_isRow hst x (mu M 99 0 0) dr hd h20) rfl ?_
  have e0 : Eqx Se M (mu M 99 0 0) := Eqx.rf.mu (by unfold Se; omega)
  rcases ixB_cases x (n := dr + 2) (by omega) with ⟨hb, h⟩ | ⟨j, hj, rfl, hb⟩
  · rw [hb]
    refine z_if_ne (tgt := 18) dX7_end_11 (by decide) rfl (fun h1 => ?_) (fun h1 => ?_)
    · exact absurd rfl h1
    · refine z_iconst (v := 1) dX7_end_14 (by decide) rfl ?_
      refine z_goto (tgt := 19) dX7_end_15 (by decide) ?_
      refine z_iconst (v := 1) dX7_end_19 (by decide) rfl ?_
      refine z_cv2 (ci := 7) (nf := 32) (y := mX7_bad) dX7_end_20 ml_X7_154 iv_X7_bad (Nat.le_of_ble_eq_true rfl) rfl (by decide) rfl (Nat.le_of_ble_eq_true rfl) (Nat.le_of_ble_eq_true rfl) (Nat.le_of_ble_eq_true rfl) (c_X7_bad1 hst 1 _) rfl ?_
      refine z_if_eq (tgt := 30) dX7_end_23 (by decide) rfl (fun h2 => ?_) (fun h2 => ?_)
      · exact absurd h2 (by decide)
      · refine z_iconst (v := 0) dX7_end_26 (by decide) rfl ?_
        refine z_goto (tgt := 35) dX7_end_27 (by decide) ?_
        exact z_ireturn dX7_end_35 rfl ⟨rfl, e0.mu (by unfold Se; omega), rfl⟩ (Nat.le_of_ble_eq_true rfl) (Nat.le_of_ble_eq_true rfl)
  · rw [hb, nI_clamp (show j < 2 ^ 31 by omega)]
    refine z_if_ne (tgt := 18) dX7_end_11 (by decide) rfl (fun h1 => ?_) (fun h1 => ?_)
    · refine z_iconst (v := 0) dX7_end_18 (by decide) rfl ?_
      refine z_iconst (v := 1) dX7_end_19 (by decide) rfl ?_
      refine z_cv2 (ci := 7) (nf := 32) (y := mX7_bad) dX7_end_20 ml_X7_154 iv_X7_bad (Nat.le_of_ble_eq_true rfl) rfl (by decide) rfl (Nat.le_of_ble_eq_true rfl) (Nat.le_of_ble_eq_true rfl) (Nat.le_of_ble_eq_true rfl) (c_X7_bad0 hst 1 _) rfl ?_
      refine z_if_eq (tgt := 30) dX7_end_23 (by decide) rfl (fun h2 => ?_) (fun h2 => ?_)
      · refine z_aload_n dX7_end_30 rfl rfl ?_
        refine z_iload_n dX7_end_31 rfl rfl ?_
        refine z_cq1 (ci := 7) (nf := 32) (y := mX7_goes) dX7_end_32 ml_X7_183 iv_X7_goes (Nat.le_of_ble_eq_true rfl) rfl (by decide) rfl (Nat.le_of_ble_eq_true rfl) (Nat.le_of_ble_eq_true rfl) (Nat.le_of_ble_eq_true rfl) (c_X7_goes hst (mu M 99 0 0) (rowP B j) j od (by omega) ((hW j hj).keepE e0) hod) rfl ?_
        intro N ⟨hE, hs⟩
        exact z_ireturn dX7_end_35 rfl ⟨rfl, e0.tr (hE.mono (fun a b q => Sm_Se q)), by rw [hE 99 0 (by unfold Sm; omega)]; rfl⟩ (Nat.le_of_ble_eq_true rfl) (Nat.le_of_ble_eq_true rfl)
      · exact absurd rfl h2
    · exact absurd h1 (by decide)
set_option maxHeartbeats 4000000 in
theorem c_X7_begins {l : Launch} {E : EnT} (hst : l.stackTraces = false) (M : Mem) (B : Bw) (od : Nat → Nat) (dr : Nat) (x w : Int32) (hn : M 99 14 = nI B.1) (hd : M 99 20 = nI dr) (h20 : dr ≤ 20) (hW : ∀ r, r < dr + 2 → WM (rowP B r) M r) (hod : ∀ k, k < B.1 → M 107 k = nI (od k) ∧ od k < B.1) : Mm l E mX7_begins 2 0 0 [.ref 99, .int x, .int w] M (RP (some (.int (if ixB w B.1 then (if ixB x (dr + 2) then stI (schd (rowP B x.toNatClampNeg) od w.toNatClampNeg) else 0) else 0))) (fun N => Eqx Se M N ∧ N 99 0 = if ixB w B.1 then (if ixB x (dr + 2) then 0 else 2) else 1)) := by
  have h16 : B.1 ≤ 16 := (hW 0 (by omega)).2.1
  refine Mm_go hst (by decide) rfl (Nat.le_of_ble_eq_true rfl) [some (.ref 99), some (.int x), some (.int w)] rfl ?_
  refine z_aload_n dX7_begins_0 rfl rfl ?_
  refine z_iconst (v := 0) dX7_begins_1 (by decide) rfl ?_
  refine z_pi7 (j := 0) dX7_begins_2 (by decide) fl_X7_79 rfl rfl rfl rfl rfl ?_
  refine z_aload_n dX7_begins_5 rfl rfl ?_
  refine z_aload_n dX7_begins_6 rfl rfl ?_
  refine z_iload_n dX7_begins_7 rfl rfl ?_
  refine z_cv1 (ci := 7) (nf := 32) (y := mX7_isWork) dX7_begins_8 ml_X7_164 iv_X7_isWork (Nat.le_of_ble_eq_true rfl) rfl (by decide) rfl (Nat.le_of_ble_eq_true rfl) (Nat.le_of_ble_eq_true rfl) (Nat.le_of_ble_eq_true rfl) (c_X7_isWork hst w (mu M 99 0 0) B.1 hn h16) rfl ?_
  have e0 : Eqx Se M (mu M 99 0 0) := Eqx.rf.mu (by unfold Se; omega)
  rcases ixB_cases w (n := B.1) (by omega) with ⟨hb, h⟩ | ⟨i, hi, rfl, hb⟩
  · rw [hb]
    refine z_if_ne (tgt := 18) dX7_begins_11 (by decide) rfl (fun h1 => ?_) (fun h1 => ?_)
    · exact absurd rfl h1
    · refine z_iconst (v := 1) dX7_begins_14 (by decide) rfl ?_
      refine z_goto (tgt := 19) dX7_begins_15 (by decide) ?_
      refine z_iconst (v := 1) dX7_begins_19 (by decide) rfl ?_
      refine z_cv2 (ci := 7) (nf := 32) (y := mX7_bad) dX7_begins_20 ml_X7_154 iv_X7_bad (Nat.le_of_ble_eq_true rfl) rfl (by decide) rfl (Nat.le_of_ble_eq_true rfl) (Nat.le_of_ble_eq_true rfl) (Nat.le_of_ble_eq_true rfl) (c_X7_bad1 hst 1 _) rfl ?_
      refine z_if_ne (tgt := 47) dX7_begins_23 (by decide) rfl (fun h2 => ?_) (fun h2 => ?_)
      · refine z_iconst (v := 0) dX7_begins_47 (by decide) rfl ?_
        exact z_ireturn dX7_begins_48 rfl ⟨rfl, e0.mu (by unfold Se; omega), rfl⟩ (Nat.le_of_ble_eq_true rfl) (Nat.le_of_ble_eq_true rfl)
      · exact absurd h2 (by decide)
  · rw [hb, nI_clamp (show i < 2 ^ 31 by omega)]
    refine z_if_ne (tgt := 18) dX7_begins_11 (by decide) rfl (fun h1 => ?_) (fun h1 => ?_)
    · refine z_iconst (v := 0) dX7_begins_18 (by decide) rfl ?_
      refine z_iconst (v := 1) dX7_begins_19 (by decide) rfl ?_
      refine z_cv2 (ci := 7) (nf := 32) (y := mX7_bad) dX7_begins_20 ml_X7_154 iv_X7_bad (Nat.le_of_ble_eq_true rfl) rfl (by decide) rfl (Nat.le_of_ble_eq_true rfl) (Nat.le_of_ble_eq_true rfl) (Nat.le_of_ble_eq_true rfl) (c_X7_bad0 hst 1 _) rfl ?_
      refine z_if_ne (tgt := 47) dX7_begins_23 (by decide) rfl (fun h2 => ?_) (fun h2 => ?_)
      · exact absurd rfl h2
      · refine z_aload_n dX7_begins_26 rfl rfl ?_
        refine z_aload_n dX7_begins_27 rfl rfl ?_
        refine z_iload_n dX7_begins_28 rfl rfl ?_
        refine z_cv1 (ci := 7) (nf := 32) (y := mX7_isRow) dX7_begins_29 ml_X7_172 iv_X7_isRow (Nat.le_of_ble_eq_true rfl) rfl (by decide) rfl (Nat.le_of_ble_eq_true rfl) (Nat.le_of_ble_eq_true rfl) (Nat.le_of_ble_eq_true rfl) (c_X7_isRow hst x (mu M 99 0 0) dr hd h20) rfl ?_
        rcases ixB_cases x (n := dr + 2) (by omega) with ⟨hx, h⟩ | ⟨j, hj, rfl, hx⟩
        · rw [hx]
          refine z_if_ne (tgt := 39) dX7_begins_32 (by decide) rfl (fun h3 => ?_) (fun h3 => ?_)
          · exact absurd rfl h3
          · refine z_iconst (v := 1) dX7_begins_35 (by decide) rfl ?_
            refine z_goto (tgt := 40) dX7_begins_36 (by decide) ?_
            refine z_iconst (v := 2) dX7_begins_40 (by decide) rfl ?_
            refine z_cv2 (ci := 7) (nf := 32) (y := mX7_bad) dX7_begins_41 ml_X7_154 iv_X7_bad (Nat.le_of_ble_eq_true rfl) rfl (by decide) rfl (Nat.le_of_ble_eq_true rfl) (Nat.le_of_ble_eq_true rfl) (Nat.le_of_ble_eq_true rfl) (c_X7_bad1 hst 2 _) rfl ?_
            refine z_if_eq (tgt := 49) dX7_begins_44 (by decide) rfl (fun h4 => ?_) (fun h4 => ?_)
            · exact absurd h4 (by decide)
            · refine z_iconst (v := 0) dX7_begins_47 (by decide) rfl ?_
              exact z_ireturn dX7_begins_48 rfl ⟨rfl, e0.mu (by unfold Se; omega), rfl⟩ (Nat.le_of_ble_eq_true rfl) (Nat.le_of_ble_eq_true rfl)
        · rw [hx, nI_clamp (show j < 2 ^ 31 by omega)]
          refine z_if_ne (tgt := 39) dX7_begins_32 (by decide) rfl (fun h3 => ?_) (fun h3 => ?_)
          · refine z_iconst (v := 0) dX7_begins_39 (by decide) rfl ?_
            refine z_iconst (v := 2) dX7_begins_40 (by decide) rfl ?_
            refine z_cv2 (ci := 7) (nf := 32) (y := mX7_bad) dX7_begins_41 ml_X7_154 iv_X7_bad (Nat.le_of_ble_eq_true rfl) rfl (by decide) rfl (Nat.le_of_ble_eq_true rfl) (Nat.le_of_ble_eq_true rfl) (Nat.le_of_ble_eq_true rfl) (c_X7_bad0 hst 2 _) rfl ?_
            refine z_if_eq (tgt := 49) dX7_begins_44 (by decide) rfl (fun h4 => ?_) (fun h4 => ?_)
            · refine z_aload_n dX7_begins_49 rfl rfl ?_
              refine z_iload_n dX7_begins_50 rfl rfl ?_
              refine z_cq1 (ci := 7) (nf := 32) (y := mX7_goes) dX7_begins_51 ml_X7_183 iv_X7_goes (Nat.le_of_ble_eq_true rfl) rfl (by decide) rfl (Nat.le_of_ble_eq_true rfl) (Nat.le_of_ble_eq_true rfl) (Nat.le_of_ble_eq_true rfl) (c_X7_goes hst (mu M 99 0 0) (rowP B j) j od (by omega) ((hW j hj).keepE e0) hod) rfl ?_
              intro N ⟨hE, hs⟩
              refine z_pop dX7_begins_54 rfl rfl ?_
              refine z_aload_n dX7_begins_55 rfl rfl ?_
              refine z_gr7 (j := 22) dX7_begins_56 (by decide) fl_X7_55 rfl rfl rfl ?_
              refine z_iload_n dX7_begins_59 rfl rfl ?_
              refine z_iald dX7_begins_60 (by first | rfl | exact knd_h (by omega) | exact knd_s (by omega)) rfl (by omega) (by decide) rfl ?_
              exact z_ireturn dX7_begins_61 rfl ⟨by rw [hs i hi]; rfl, e0.tr (hE.mono (fun a b q => Sm_Se q)), by rw [hE 99 0 (by unfold Sm; omega)]; rfl⟩ (Nat.le_of_ble_eq_true rfl) (Nat.le_of_ble_eq_true rfl)
            · exact absurd rfl h4
          · exact absurd h3 (by decide)
    · exact absurd h1 (by decide)
set_option maxHeartbeats 4000000 in
theorem c_X7_part {l : Launch} {E : EnT} (hst : l.stackTraces = false) (M : Mem) (B : Bw) (od : Nat → Nat) (dr lim : Nat) (hd : M 99 20 = nI dr) (h20 : dr ≤ 20) (hW : ∀ r, r < dr + 2 → WM (rowP B r) M r) (hod : ∀ k, k < B.1 → M 107 k = nI (od k) ∧ od k < B.1) (hlm : M 99 16 = nI lim) (hl : lim ≤ 1000) : Mm l E mX7_part 2 0 0 [.ref 99] M (RP (some (.int (nI (partS lim (fun d => if d < dr then endS (rowP B (d + 2)) od else none) dr)))) (fun N => Eqx Se M N)) := by
  refine Mm_go hst (by decide) rfl (Nat.le_of_ble_eq_true rfl) [some (.ref 99), none, none, none] rfl ?_
  refine z_aload_n dX7_part_0 rfl rfl ?_
  refine z_iconst (v := 0) dX7_part_1 (by decide) rfl ?_
  refine z_pi7 (j := 0) dX7_part_2 (by decide) fl_X7_79 rfl rfl rfl rfl rfl ?_
  refine z_iconst (v := 0) dX7_part_5 (by decide) rfl ?_
  refine z_ist1 dX7_part_6 (Nat.le_of_ble_eq_true rfl) rfl ?_
  refine z_iconst (v := 0) dX7_part_7 (by decide) rfl ?_
  refine z_ist2 dX7_part_8 (Nat.le_of_ble_eq_true rfl) rfl ?_
  generalize hf : (fun d => if d < dr then endS (rowP B (d + 2)) od else none) = f
  have loop : ∀ (k j : Nat), j + k = dr → ∀ (N : Mem) (u : Option Value), Eqx Se M N → Zz (zx l E mX7_part 2 (RP (some (.int (nI (partS lim f dr)))) (fun N => Eqx Se M N))) 0 0 9 [some (.ref 99), some (.int (nI (partS lim f j))), some (.int (nI j)), u] [] N := by
    intro k
    induction k with
    | zero =>
      intro j hj N u hE
      have ej : j = dr := by omega
      subst ej
      have e4 : N 99 20 = nI j := by rw [hE 99 20 (by unfold Se; omega)]; exact hd
      refine z_iload_n dX7_part_9 rfl rfl ?_
      refine z_aload_n dX7_part_10 rfl rfl ?_
      refine z_gi7 (j := 20) dX7_part_11 (by decide) fl_X7_161 rfl rfl rfl ?_
      refine z_icmp_ge (tgt := 51) dX7_part_14 (by decide) rfl (fun hc => ?_) (fun hc => ?_)
      · refine z_iload_n dX7_part_51 rfl rfl ?_
        exact z_ireturn dX7_part_52 rfl ⟨rfl, hE⟩ (Nat.le_of_ble_eq_true rfl) (Nat.le_of_ble_eq_true rfl)
      · exact absurd (by rw [e4]; exact nI_le (Nat.le_refl _) (by omega)) hc
    | succ k ih =>
      intro j hj N u hE
      have e4 : N 99 20 = nI dr := by rw [hE 99 20 (by unfold Se; omega)]; exact hd
      have hfj : f j = endS (rowP B (j + 2)) od := by rw [← hf]; dsimp only; rw [if_pos (by omega)]
      have hps : partS lim f (j + 1) = partS lim f j + (match f j with | some x => if x ≤ lim then 1 else 0 | none => 0) := rfl
      refine z_iload_n dX7_part_9 rfl rfl ?_
      refine z_aload_n dX7_part_10 rfl rfl ?_
      refine z_gi7 (j := 20) dX7_part_11 (by decide) fl_X7_161 rfl rfl rfl ?_
      refine z_icmp_ge (tgt := 51) dX7_part_14 (by decide) rfl (fun hc => ?_) (fun hc => ?_)
      · exact absurd hc (by rw [e4]; exact nI_ge (by omega) (by omega))
      · refine z_aload_n dX7_part_17 rfl rfl ?_
        refine z_iconst (v := 2) dX7_part_18 (by decide) rfl ?_
        refine z_iload_n dX7_part_19 rfl rfl ?_
        refine z_iadd dX7_part_20 rfl ?_
        refine z_tp (b := (nI (j + 2))) (by rw [show (2 : Int32) = nI 2 from rfl, nI_add, Nat.add_comm]) ?_
        refine z_cq1 (ci := 7) (nf := 32) (y := mX7_goes) dX7_part_21 ml_X7_183 iv_X7_goes (Nat.le_of_ble_eq_true rfl) rfl (by decide) rfl (Nat.le_of_ble_eq_true rfl) (Nat.le_of_ble_eq_true rfl) (Nat.le_of_ble_eq_true rfl) (c_X7_goes hst N (rowP B (j + 2)) (j + 2) od (by omega) ((hW (j + 2) (by omega)).keepE hE) (fun k hk => ⟨by rw [hE 107 k (by unfold Se; omega)]; exact (hod k hk).1, (hod k hk).2⟩)) rfl ?_
        intro N2 ⟨hE2, _⟩
        have hE3 := hE.tr (hE2.mono (fun a b q => Sm_Se q))
        have elm : N2 99 16 = nI lim := by rw [hE3 99 16 (by unfold Se; omega)]; exact hlm
        rw [← hfj]
        have add0 : partS lim f (j + 1) = partS lim f j → Zz (zx l E mX7_part 2 (RP (some (.int (nI (partS lim f dr)))) (fun N => Eqx Se M N))) 0 0 42 [some (.ref 99), some (.int (nI (partS lim f j))), some (.int (nI j)), some (.int (enI (f j)))] [.int (nI (partS lim f j))] N2 := fun q => by
          have ih1 := ih (j + 1) (by omega) N2 (some (.int (enI (f j)))) hE3
          rw [q] at ih1
          refine z_iconst (v := 0) dX7_part_42 (by decide) rfl ?_
          refine z_iadd dX7_part_43 rfl ?_
          refine z_tp (b := (nI (partS lim f j))) (Int32.add_zero _) ?_
          refine z_ist1 dX7_part_44 (Nat.le_of_ble_eq_true rfl) rfl ?_
          first | refine z_iu2 dX7_part_45 (Nat.le_of_ble_eq_true rfl) rfl ?_ | refine z_inc2 dX7_part_45 (Nat.le_of_ble_eq_true rfl) rfl rfl ?_
          refine z_goto (tgt := 9) dX7_part_48 (by decide) ?_
          exact ih1
        cases hx : f j with
        | none =>
          rw [hx] at add0 hps
          refine z_ist3 dX7_part_24 (Nat.le_of_ble_eq_true rfl) rfl ?_
          refine z_iload_n dX7_part_25 rfl rfl ?_
          refine z_iload_n dX7_part_26 rfl rfl ?_
          refine z_if_lt (tgt := 42) dX7_part_27 (by decide) rfl (fun h1 => ?_) (fun h1 => ?_)
          · exact add0 hps
          · exact absurd (by decide) h1
        | some x =>
          have hxb := end_bd (P := rowP B (j + 2)) (hW (j + 2) (by omega)).2.1 (fun k hk => (hod k hk).2) (fun w hw => ((hW (j + 2) (by omega)).2.2.2.2 w hw).2.2.2.2.2.2) (hfj.symm.trans hx)
          rw [hx] at add0 hps
          refine z_ist3 dX7_part_24 (Nat.le_of_ble_eq_true rfl) rfl ?_
          refine z_iload_n dX7_part_25 rfl rfl ?_
          refine z_iload_n dX7_part_26 rfl rfl ?_
          refine z_if_lt (tgt := 42) dX7_part_27 (by decide) rfl (fun h1 => ?_) (fun h1 => ?_)
          · exact absurd h1 (nI_pos (by omega))
          · refine z_iload_n dX7_part_30 rfl rfl ?_
            refine z_aload_n dX7_part_31 rfl rfl ?_
            refine z_gi7 (j := 16) dX7_part_32 (by decide) fl_X7_42 rfl rfl rfl ?_
            refine z_icmp_gt (tgt := 42) dX7_part_35 (by decide) rfl (fun h2 => ?_) (fun h2 => ?_)
            · rw [elm] at h2
              have := lt_nn (b := x) h2 (by omega) (by omega)
              exact add0 (by rw [hps]; simp only; rw [if_neg (by omega)]; rfl)
            · rw [elm] at h2
              have := nlt_nn (b := x) h2 (by omega) (by omega)
              have ih1 := ih (j + 1) (by omega) N2 (some (.int (enI (f j)))) hE3
              rw [hx, show partS lim f (j + 1) = partS lim f j + 1 from by rw [hps]; simp only; rw [if_pos (by omega)]] at ih1
              refine z_iconst (v := 1) dX7_part_38 (by decide) rfl ?_
              refine z_goto (tgt := 43) dX7_part_39 (by decide) ?_
              refine z_iadd dX7_part_43 rfl ?_
              refine z_tp (b := (nI (partS lim f j + 1))) (nI_1 _) ?_
              refine z_ist1 dX7_part_44 (Nat.le_of_ble_eq_true rfl) rfl ?_
              first | refine z_iu2 dX7_part_45 (Nat.le_of_ble_eq_true rfl) rfl ?_ | refine z_inc2 dX7_part_45 (Nat.le_of_ble_eq_true rfl) rfl rfl ?_
              refine z_goto (tgt := 9) dX7_part_48 (by decide) ?_
              exact ih1
  exact loop dr 0 (by omega) _ none (Eqx.rf.mu (by unfold Se; omega))
/-- the reference's beginOf holds the draws' begins -/
def Bg (B : Bw) (od : Nat → Nat) (N : Mem) (d : Nat) : Prop := ∀ w, w < B.1 → N 115 (16 * d + w) = stI (schd (rowP B (d + 2)) od w)
/-- sums that pass over what has none -/
def lateZ (lim : Nat) (f : Nat → Option Nat) : Nat → Nat
  | 0 => 0
  | d + 1 => lateZ lim f d + ltN lim (f d)
def allD (f : Nat → Option Nat) : Nat → Bool
  | 0 => true
  | d + 1 => allD f d && (f d).isSome
theorem late_Z {lim : Nat} {f : Nat → Option Nat} : ∀ {d : Nat}, lateS lim f d = if allD f d then some (lateZ lim f d) else none
  | 0 => rfl
  | d + 1 => by
    rw [lateS, late_Z (d := d), allD, lateZ]
    cases ha : allD f d <;> cases hx : f d <;> simp [ltN]
theorem lateZ_bd {lim m : Nat} {f : Nat → Option Nat} (hf : ∀ d x, f d = some x → x ≤ m) : ∀ {a : Nat}, lateZ lim f a ≤ m * a
  | 0 => Nat.zero_le _
  | a + 1 => by
    have := @lateZ_bd lim m f hf a
    unfold lateZ
    rw [Nat.mul_succ]
    cases hx : f a with
    | none => simp only [ltN]; omega
    | some x => have := hf a x hx; simp only [ltN]; omega
set_option maxHeartbeats 8000000 in
theorem c_X7_onOf {l : Launch} {E : EnT} (hst : l.stackTraces = false) (M : Mem) (B : Bw) (od : Nat → Nat) (dr lim : Nat) (hd : M 99 20 = nI dr) (h20 : dr ≤ 20) (hW : ∀ r, r < dr + 2 → WM (rowP B r) M r) (hod : ∀ k, k < B.1 → M 107 k = nI (od k) ∧ od k < B.1) (hlm : M 99 16 = nI lim) (hl : lim ≤ 1000) : Mm l E mX7_onOf 2 0 0 [.ref 99] M (RP (some (.int (enI (drS dr (lateS lim (fun d => if d < dr then endS (rowP B (d + 2)) od else none) dr))))) (fun N => Eqx (fun a _ => a = 111 ∨ a = 112 ∨ a = 115) M N ∧ ∀ d, d < dr → Bg B od N d)) := by
  have h16 : B.1 ≤ 16 := (hW 0 (by omega)).2.1
  refine Mm_go hst (by decide) rfl (Nat.le_of_ble_eq_true rfl) [some (.ref 99), none, none, none, none, none] rfl ?_
  refine z_iconst (v := 0) dX7_onOf_0 (by decide) rfl ?_
  refine z_ist1 dX7_onOf_1 (Nat.le_of_ble_eq_true rfl) rfl ?_
  refine z_iconst (v := 1) dX7_onOf_2 (by decide) rfl ?_
  refine z_ist2 dX7_onOf_3 (Nat.le_of_ble_eq_true rfl) rfl ?_
  refine z_iconst (v := 0) dX7_onOf_4 (by decide) rfl ?_
  refine z_ist3 dX7_onOf_5 (Nat.le_of_ble_eq_true rfl) rfl ?_
  have hfb : ∀ d x, (if d < dr then endS (rowP B (d + 2)) od else none) = some x → x ≤ 100000 := fun d x hx => by
    split at hx
    · rename_i q
      have := end_bd (P := rowP B (d + 2)) (hW (d + 2) (by omega)).2.1 (fun k hk => (hod k hk).2) (fun w hw => ((hW (d + 2) (by omega)).2.2.2.2 w hw).2.2.2.2.2.2) hx
      omega
    · cases hx
  generalize hf : (fun d => if d < dr then endS (rowP B (d + 2)) od else none) = f
  have hfb2 : ∀ d x, f d = some x → x ≤ 100000 := fun d x hx => hfb d x (by rw [← hf] at hx; exact hx)
  generalize hQ : (RP (some (.int (enI (drS dr (lateS lim f dr))))) (fun N => Eqx (fun a _ => a = 111 ∨ a = 112 ∨ a = 115) M N ∧ ∀ d, d < dr → Bg B od N d)) = Q
  have toE : ∀ {N}, Eqx (fun a _ => a = 111 ∨ a = 112 ∨ a = 115) M N → Eqx Se M N := fun h => h.mono (fun a b q => by unfold Se; omega)
  -- the copy
  have cpy : ∀ (j : Nat) (N : Mem) (u1 u2 u4 : Option Value), j < dr → Eqx (fun a _ => a = 111 ∨ a = 112 ∨ a = 115) M N → (∀ w, w < B.1 → N 111 w = stI (schd (rowP B (j + 2)) od w)) → Zz (zx l E mX7_onOf 2 Q) 0 0 60 [some (.ref 99), u1, u2, some (.int (nI j)), u4, some (.int (nI B.1))] [] (fil N 115 (16 * j) B.1 (N 111)) → ∀ (k w : Nat), w + k = B.1 → Zz (zx l E mX7_onOf 2 Q) 0 0 26 [some (.ref 99), u1, u2, some (.int (nI j)), u4, some (.int (nI w))] [] (fil N 115 (16 * j) w (N 111)) := by
    intro j N u1 u2 u4 hj hE hs hgo k
    have en : ∀ w, fil N 115 (16 * j) w (N 111) 99 14 = nI B.1 := fun w => by rw [fil_o (by decide), hE 99 14 (by omega)]; exact (hW 0 (by omega)).1
    induction k with
    | zero =>
      intro w hw
      have ew : w = B.1 := by omega
      subst ew
      refine z_iload dX7_onOf_26 rfl rfl ?_
      refine z_aload_n dX7_onOf_28 rfl rfl ?_
      refine z_gi7 (j := 14) dX7_onOf_29 (by decide) fl_X7_144 rfl rfl rfl ?_
      refine z_icmp_ge (tgt := 60) dX7_onOf_32 (by decide) rfl (fun hc => ?_) (fun hc => ?_)
      · exact hgo
      · exact absurd (by rw [en]; exact nI_le (Nat.le_refl _) (by omega)) hc
    | succ k ih =>
      intro w hw
      refine z_iload dX7_onOf_26 rfl rfl ?_
      refine z_aload_n dX7_onOf_28 rfl rfl ?_
      refine z_gi7 (j := 14) dX7_onOf_29 (by decide) fl_X7_144 rfl rfl rfl ?_
      refine z_icmp_ge (tgt := 60) dX7_onOf_32 (by decide) rfl (fun hc => ?_) (fun hc => ?_)
      · exact absurd hc (by rw [en]; exact nI_ge (by omega) (by omega))
      · refine z_aload_n dX7_onOf_35 rfl rfl ?_
        refine z_gr7 (j := 26) dX7_onOf_36 (by decide) fl_X7_67 rfl rfl rfl ?_
        refine z_bipush (v := 16) dX7_onOf_39 (by decide) rfl ?_
        refine z_iload_n dX7_onOf_41 rfl rfl ?_
        refine z_imul dX7_onOf_42 rfl ?_
        refine z_iload dX7_onOf_43 rfl rfl ?_
        refine z_iadd dX7_onOf_45 rfl ?_
        refine z_aload_n dX7_onOf_46 rfl rfl ?_
        refine z_gr7 (j := 22) dX7_onOf_47 (by decide) fl_X7_55 rfl rfl rfl ?_
        refine z_iload dX7_onOf_50 rfl rfl ?_
        refine z_iald dX7_onOf_52 (by first | rfl | exact knd_h (by omega) | exact knd_s (by omega)) rfl (by omega) (by decide) rfl ?_
        refine z_iast dX7_onOf_53 (by first | rfl | exact knd_h (by omega) | exact knd_s (by omega)) (show 16 * nI j + nI w = nI (16 * j + w) by rw [show (16 : Int32) = nI 16 from rfl, pk_mul, nI_add]) (by omega) (by decide) rfl ?_
        refine z_mem (N := fil N 115 (16 * j) (w + 1) (N 111)) (fil_s' (by rw [fil_o (by decide)]) rfl) ?_
        first | refine z_iu5 dX7_onOf_54 (Nat.le_of_ble_eq_true rfl) rfl ?_ | refine z_inc5 dX7_onOf_54 (Nat.le_of_ble_eq_true rfl) rfl rfl ?_
        refine z_goto (tgt := 26) dX7_onOf_57 (by decide) ?_
        exact ih (w + 1) (by omega)
  have loop : ∀ (k j : Nat), j + k = dr → ∀ (N : Mem) (u4 u5 : Option Value), Eqx (fun a _ => a = 111 ∨ a = 112 ∨ a = 115) M N → (∀ d, d < j → Bg B od N d) → Zz (zx l E mX7_onOf 2 Q) 0 0 6 [some (.ref 99), some (.int (nI (lateZ lim f j))), some (.int (bI (allD f j))), some (.int (nI j)), u4, u5] [] N := by
    intro k
    induction k with
    | zero =>
      intro j hj N u4 u5 hE hB
      have ej : j = dr := by omega
      subst ej
      have e4 : N 99 20 = nI j := by rw [hE 99 20 (by omega)]; exact hd
      have hZ := late_Z (lim := lim) (f := f) (d := j)
      refine z_iload_n dX7_onOf_6 rfl rfl ?_
      refine z_aload_n dX7_onOf_7 rfl rfl ?_
      refine z_gi7 (j := 20) dX7_onOf_8 (by decide) fl_X7_161 rfl rfl rfl ?_
      refine z_icmp_ge (tgt := 90) dX7_onOf_11 (by decide) rfl (fun hc => ?_) (fun hc => ?_)
      · refine z_aload_n dX7_onOf_90 rfl rfl ?_
        refine z_gi7 (j := 20) dX7_onOf_91 (by decide) fl_X7_161 rfl rfl rfl ?_
        refine z_if_eq (tgt := 101) dX7_onOf_94 (by decide) rfl (fun h1 => ?_) (fun h1 => ?_)
        · have hj0 : j = 0 := (nI_eq (by omega) (by decide)).mp (e4.symm.trans h1)
          rw [← hQ]
          refine z_iconst (v := (-1)) dX7_onOf_101 (by decide) rfl ?_
          refine z_goto (tgt := 106) dX7_onOf_102 (by decide) ?_
          exact z_ireturn dX7_onOf_106 rfl ⟨by unfold drS; rw [if_pos hj0]; rfl, hE, hB⟩ (Nat.le_of_ble_eq_true rfl) (Nat.le_of_ble_eq_true rfl)
        · have hj0 : j ≠ 0 := fun q => h1 (by rw [e4, q]; rfl)
          cases ha : allD f j with
          | true =>
            refine z_iload_n dX7_onOf_97 rfl rfl ?_
            refine z_if_ne (tgt := 105) dX7_onOf_98 (by decide) rfl (fun h2 => ?_) (fun h2 => ?_)
            · rw [← hQ]
              refine z_iload_n dX7_onOf_105 rfl rfl ?_
              exact z_ireturn dX7_onOf_106 rfl ⟨by unfold drS; rw [if_neg hj0, hZ, ha]; rfl, hE, hB⟩ (Nat.le_of_ble_eq_true rfl) (Nat.le_of_ble_eq_true rfl)
            · exact absurd h2 (by decide)
          | false =>
            refine z_iload_n dX7_onOf_97 rfl rfl ?_
            refine z_if_ne (tgt := 105) dX7_onOf_98 (by decide) rfl (fun h2 => ?_) (fun h2 => ?_)
            · exact absurd rfl h2
            · rw [← hQ]
              refine z_iconst (v := (-1)) dX7_onOf_101 (by decide) rfl ?_
              refine z_goto (tgt := 106) dX7_onOf_102 (by decide) ?_
              exact z_ireturn dX7_onOf_106 rfl ⟨by unfold drS; rw [if_neg hj0, hZ, ha]; rfl, hE, hB⟩ (Nat.le_of_ble_eq_true rfl) (Nat.le_of_ble_eq_true rfl)
      · exact absurd (by rw [e4]; exact nI_le (Nat.le_refl _) (by omega)) hc
    | succ k ih =>
      intro j hj N u4 u5 hE hB
      have e4 : N 99 20 = nI dr := by rw [hE 99 20 (by omega)]; exact hd
      have hfj : f j = endS (rowP B (j + 2)) od := by rw [← hf]; dsimp only; rw [if_pos (by omega)]
      refine z_iload_n dX7_onOf_6 rfl rfl ?_
      refine z_aload_n dX7_onOf_7 rfl rfl ?_
      refine z_gi7 (j := 20) dX7_onOf_8 (by decide) fl_X7_161 rfl rfl rfl ?_
      refine z_icmp_ge (tgt := 90) dX7_onOf_11 (by decide) rfl (fun hc => ?_) (fun hc => ?_)
      · exact absurd hc (by rw [e4]; exact nI_ge (by omega) (by omega))
      · refine z_aload_n dX7_onOf_14 rfl rfl ?_
        refine z_iconst (v := 2) dX7_onOf_15 (by decide) rfl ?_
        refine z_iload_n dX7_onOf_16 rfl rfl ?_
        refine z_iadd dX7_onOf_17 rfl ?_
        refine z_tp (b := (nI (j + 2))) (by rw [show (2 : Int32) = nI 2 from rfl, nI_add, Nat.add_comm]) ?_
        refine z_cq1 (ci := 7) (nf := 32) (y := mX7_goes) dX7_onOf_18 ml_X7_183 iv_X7_goes (Nat.le_of_ble_eq_true rfl) rfl (by decide) rfl (Nat.le_of_ble_eq_true rfl) (Nat.le_of_ble_eq_true rfl) (Nat.le_of_ble_eq_true rfl) (c_X7_goes hst N (rowP B (j + 2)) (j + 2) od (by omega) ((hW (j + 2) (by omega)).keepE (toE hE)) (fun k hk => ⟨by rw [hE 107 k (by omega)]; exact (hod k hk).1, (hod k hk).2⟩)) rfl ?_
        intro N2 ⟨hE2, hs2⟩
        have hE3 : Eqx (fun a _ => a = 111 ∨ a = 112 ∨ a = 115) M N2 := hE.tr (hE2.mono (fun a b q => by unfold Sm at q; omega))
        rw [← hfj]
        refine z_ist4 dX7_onOf_21 (Nat.le_of_ble_eq_true rfl) rfl ?_
        refine z_iconst (v := 0) dX7_onOf_23 (by decide) rfl ?_
        refine z_ist5 dX7_onOf_24 (Nat.le_of_ble_eq_true rfl) rfl ?_
        refine z_mem (N := fil N2 115 (16 * j) 0 (N2 111)) fil_0.symm ?_
        refine cpy j N2 _ _ _ (by omega) hE3 hs2 ?_ B.1 0 (by omega)
        have hE4 : Eqx (fun a _ => a = 111 ∨ a = 112 ∨ a = 115) M (fil N2 115 (16 * j) B.1 (N2 111)) := hE3.tr (fun a b q => by rw [fil_o (by omega)])
        have hB4 : ∀ d, d < j + 1 → Bg B od (fil N2 115 (16 * j) B.1 (N2 111)) d := fun d hdj w hw => by
          rcases Nat.lt_or_ge d j with q | q
          · rw [fil_x (by omega), hE2 115 _ (by unfold Sm; omega)]
            exact hB d q w hw
          · have : d = j := by omega
            subst this
            rw [fil_i (by omega) (by omega), show 16 * d + w - 16 * d = w by omega]
            exact hs2 w hw
        have hlmN : fil N2 115 (16 * j) B.1 (N2 111) 99 16 = nI lim := by rw [hE4 99 16 (by omega)]; exact hlm
        generalize fil N2 115 (16 * j) B.1 (N2 111) = N5 at hE4 hB4 hlmN ⊢
        have ih1 := ih (j + 1) (by omega) N5 (some (.int (enI (f j)))) (some (.int (nI B.1))) hE4 hB4
        have tail : Zz (zx l E mX7_onOf 2 Q) 0 0 75 [some (.ref 99), some (.int (nI (lateZ lim f j))), some (.int (bI (allD f (j + 1)))), some (.int (nI j)), some (.int (enI (f j))), some (.int (nI B.1))] [] N5 := by
          refine z_iload_n dX7_onOf_75 rfl rfl ?_
          refine z_aload_n dX7_onOf_76 rfl rfl ?_
          refine z_iload dX7_onOf_77 rfl rfl ?_
          refine z_cv1 (ci := 7) (nf := 32) (y := mX7_late) dX7_onOf_79 ml_X7_193 iv_X7_late (Nat.le_of_ble_eq_true rfl) rfl (by decide) rfl (Nat.le_of_ble_eq_true rfl) (Nat.le_of_ble_eq_true rfl) (Nat.le_of_ble_eq_true rfl) (c_X7_late hst N5 (f j) lim hlmN hl (hfb2 j)) rfl ?_
          refine z_iadd dX7_onOf_82 rfl ?_
          refine z_tp (b := (nI (lateZ lim f (j + 1)))) (nI_add _ _) ?_
          refine z_ist1 dX7_onOf_83 (Nat.le_of_ble_eq_true rfl) rfl ?_
          first | refine z_iu3 dX7_onOf_84 (Nat.le_of_ble_eq_true rfl) rfl ?_ | refine z_inc3 dX7_onOf_84 (Nat.le_of_ble_eq_true rfl) rfl rfl ?_
          refine z_goto (tgt := 6) dX7_onOf_87 (by decide) ?_
          exact ih1
        rw [show allD f (j + 1) = (allD f j && (f j).isSome) from rfl] at tail
        cases ha : allD f j with
        | false =>
          rw [ha] at tail
          refine z_iload_n dX7_onOf_60 rfl rfl ?_
          refine z_if_eq (tgt := 73) dX7_onOf_61 (by decide) rfl (fun h1 => ?_) (fun h1 => ?_)
          · refine z_iconst (v := 0) dX7_onOf_73 (by decide) rfl ?_
            refine z_ist2 dX7_onOf_74 (Nat.le_of_ble_eq_true rfl) rfl ?_
            exact tail
          · exact absurd rfl h1
        | true =>
          rw [ha] at tail
          refine z_iload_n dX7_onOf_60 rfl rfl ?_
          refine z_if_eq (tgt := 73) dX7_onOf_61 (by decide) rfl (fun h1 => ?_) (fun h1 => ?_)
          · exact absurd h1 (by decide)
          · cases hx : f j with
            | none =>
              rw [hx] at tail
              refine z_iload dX7_onOf_64 rfl rfl ?_
              refine z_if_lt (tgt := 73) dX7_onOf_66 (by decide) rfl (fun h2 => ?_) (fun h2 => ?_)
              · refine z_iconst (v := 0) dX7_onOf_73 (by decide) rfl ?_
                refine z_ist2 dX7_onOf_74 (Nat.le_of_ble_eq_true rfl) rfl ?_
                exact tail
              · exact absurd (by decide) h2
            | some x =>
              have := hfb2 j x hx
              rw [hx] at tail
              refine z_iload dX7_onOf_64 rfl rfl ?_
              refine z_if_lt (tgt := 73) dX7_onOf_66 (by decide) rfl (fun h2 => ?_) (fun h2 => ?_)
              · exact absurd h2 (nI_pos (by omega))
              · refine z_iconst (v := 1) dX7_onOf_69 (by decide) rfl ?_
                refine z_goto (tgt := 74) dX7_onOf_70 (by decide) ?_
                refine z_ist2 dX7_onOf_74 (Nat.le_of_ble_eq_true rfl) rfl ?_
                exact tail
  exact loop dr 0 (by omega) M none none Eqx.rf (fun d hd => absurd hd (Nat.not_lt_zero d))
