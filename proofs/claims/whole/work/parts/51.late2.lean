/-- BACK at hour h of the first m works -/
def backS (s : Sch) (bk : Nat → Option Nat) (h : Nat) : Nat → Option Nat
  | 0 => some h
  | w + 1 => match backS s bk h w with
    | none => none
    | some v => match s w with
      | none => some v
      | some b => if b < h then (match bk w with | none => none | some x => some (v + x)) else some v
theorem backS_none {s : Sch} {bk : Nat → Option Nat} {h a : Nat} (hn : backS s bk h a = none) : ∀ {b : Nat}, a ≤ b → backS s bk h b = none
  | 0, hb => by have e : a = 0 := by omega
                subst e; exact hn
  | b + 1, hb => by
    rcases Nat.lt_or_ge a (b + 1) with q | q
    · rw [backS, backS_none hn (show a ≤ b by omega)]
    · have e : a = b + 1 := by omega
      subst e; exact hn
theorem backS_bd {s : Sch} {bk : Nat → Option Nat} {h : Nat} (hb : ∀ w x, bk w = some x → x ≤ 40) : ∀ {m v : Nat}, backS s bk h m = some v → h ≤ v ∧ v ≤ h + 40 * m
  | 0, v, hv => by cases hv; omega
  | m + 1, v, hv => by
    rw [backS] at hv
    cases h1 : backS s bk h m with
    | none => rw [h1] at hv; cases hv
    | some u =>
      rw [h1] at hv
      have := backS_bd hb h1
      simp only at hv
      cases h2 : s m with
      | none => rw [h2] at hv; simp only [Option.some.injEq] at hv; omega
      | some b =>
        rw [h2] at hv
        simp only at hv
        split at hv
        · cases h3 : bk m with
          | none => rw [h3] at hv; cases hv
          | some x => rw [h3] at hv; simp only [Option.some.injEq] at hv; have := hb m x h3; omega
        · simp only [Option.some.injEq] at hv; omega
set_option maxHeartbeats 8000000 in
theorem c_X2_backFrom {l : Launch} {E : EnT} (hst : l.stackTraces = false) (M : Mem) (n h d : Nat) (s : Sch) (bk : Nat → Option Nat) (hn : M 2 3 = nI n) (h16 : n ≤ 16) (hd : d < 20) (hh : h ≤ 1000) (hs : ∀ w, w < n → M (d + 79) w = stI (s w)) (hsb : ∀ w b, s w = some b → b ≤ 100000) (hbk : ∀ w, w < n → M (w + 17) 4 = enI (bk w)) (hb40 : ∀ w x, bk w = some x → x ≤ 40) : Mm l E mX2_backFrom 0 0 0 [.ref 2, .int (nI h), .ref (d + 35)] M (Rt (some (.int (enI (backS s bk h n)))) M) := by
  refine Mm_go hst (by decide) rfl (Nat.le_of_ble_eq_true rfl) [some (.ref 2), some (.int (nI h)), some (.ref (d + 35)), none, none] rfl ?_
  refine z_iload_n dX2_backFrom_0 rfl rfl ?_
  refine z_ist3 dX2_backFrom_1 (Nat.le_of_ble_eq_true rfl) rfl ?_
  refine z_iconst (v := 0) dX2_backFrom_2 (by decide) rfl ?_
  refine z_ist4 dX2_backFrom_3 (Nat.le_of_ble_eq_true rfl) rfl ?_
  have loop : ∀ (k j v : Nat), j + k = n → backS s bk h j = some v → Zz (zx l E mX2_backFrom 0 (Rt (some (.int (enI (backS s bk h n)))) M)) 0 0 5 [some (.ref 2), some (.int (nI h)), some (.ref (d + 2 + 33)), some (.int (nI v)), some (.int (nI j))] [] M := by
    intro k
    induction k with
    | zero =>
      intro j v hj hv
      have ej : j = n := by omega
      subst ej
      refine z_iload dX2_backFrom_5 rfl rfl ?_
      refine z_aload_n dX2_backFrom_7 rfl rfl ?_
      refine z_gi2 (j := 3) dX2_backFrom_8 (by decide) fl_X2_27 rfl rfl rfl ?_
      refine z_icmp_ge (tgt := 71) dX2_backFrom_11 (by decide) rfl (fun hc => ?_) (fun hc => ?_)
      · refine z_iload_n dX2_backFrom_71 rfl rfl ?_
        exact z_ireturn dX2_backFrom_72 rfl ⟨by rw [hv]; rfl, rfl⟩ (Nat.le_of_ble_eq_true rfl) (Nat.le_of_ble_eq_true rfl)
      · exact absurd (by rw [hn]; exact nI_le (Nat.le_refl _) (by omega)) hc
    | succ k ih =>
      intro j v hj hv
      have hjn : j < n := by omega
      have hvb := backS_bd hb40 hv
      have es : M (d + 2 + 77) j = stI (s j) := hs j hjn
      have skp : backS s bk h (j + 1) = some v → Zz (zx l E mX2_backFrom 0 (Rt (some (.int (enI (backS s bk h n)))) M)) 0 0 65 [some (.ref 2), some (.int (nI h)), some (.ref (d + 2 + 33)), some (.int (nI v)), some (.int (nI j))] [] M := fun q => by
        first | refine z_iu4 dX2_backFrom_65 (Nat.le_of_ble_eq_true rfl) rfl ?_ | refine z_inc4 dX2_backFrom_65 (Nat.le_of_ble_eq_true rfl) rfl rfl ?_
        refine z_goto (tgt := 5) dX2_backFrom_68 (by decide) ?_
        exact ih (j + 1) v (by omega) q
      refine z_iload dX2_backFrom_5 rfl rfl ?_
      refine z_aload_n dX2_backFrom_7 rfl rfl ?_
      refine z_gi2 (j := 3) dX2_backFrom_8 (by decide) fl_X2_27 rfl rfl rfl ?_
      refine z_icmp_ge (tgt := 71) dX2_backFrom_11 (by decide) rfl (fun hc => ?_) (fun hc => ?_)
      · exact absurd hc (by rw [hn]; exact nI_ge (by omega) (by omega))
      · refine z_aload_n dX2_backFrom_14 rfl rfl ?_
        refine z_rowS dX2_backFrom_15 fl_X2_59 (by omega) rfl ?_
        refine z_iload dX2_backFrom_18 rfl rfl ?_
        refine z_iald dX2_backFrom_20 (by first | rfl | exact knd_h (by omega) | exact knd_s (by omega)) rfl (by omega) (by decide) rfl ?_
        refine z_tp (b := (stI (s j))) es ?_
        cases hx : s j with
        | none =>
          refine z_iconst (v := (-1)) dX2_backFrom_21 (by decide) rfl ?_
          refine z_icmp_eq (tgt := 65) dX2_backFrom_22 (by decide) rfl (fun h1 => ?_) (fun h1 => ?_)
          · exact skp (by rw [backS, hv, hx])
          · exact absurd rfl h1
        | some b =>
          have hbb := hsb j b hx
          rw [hx] at es
          refine z_iconst (v := (-1)) dX2_backFrom_21 (by decide) rfl ?_
          refine z_icmp_eq (tgt := 65) dX2_backFrom_22 (by decide) rfl (fun h1 => ?_) (fun h1 => ?_)
          · exact absurd h1 (nI_nm1 (by omega))
          · refine z_aload_n dX2_backFrom_25 rfl rfl ?_
            refine z_rowS dX2_backFrom_26 fl_X2_59 (by omega) rfl ?_
            refine z_iload dX2_backFrom_29 rfl rfl ?_
            refine z_iald dX2_backFrom_31 (by first | rfl | exact knd_h (by omega) | exact knd_s (by omega)) rfl (by omega) (by decide) rfl ?_
            refine z_tp (b := (nI b)) es ?_
            refine z_iload_n dX2_backFrom_32 rfl rfl ?_
            refine z_icmp_ge (tgt := 65) dX2_backFrom_33 (by decide) rfl (fun h2 => ?_) (fun h2 => ?_)
            · have := le_nn h2 (by omega) (by omega)
              exact skp (by rw [backS, hv, hx]; simp only; rw [if_neg (by omega)])
            · have hlt := nle_nn h2 (by omega) (by omega)
              cases hy : bk j with
              | none =>
                have hbn : backS s bk h n = none := backS_none (a := j + 1) (by rw [backS, hv, hx]; simp only; rw [if_pos hlt, hy]) (by omega)
                refine z_aload_n dX2_backFrom_36 rfl rfl ?_
                refine z_gr2 (j := 0) dX2_backFrom_37 (by decide) fl_X2_11 rfl rfl rfl ?_
                refine z_iload dX2_backFrom_40 rfl rfl ?_
                refine z_aldW dX2_backFrom_42 rfl rfl (by omega) (by decide) rfl ?_
                refine z_gi4 (j := 4) dX2_backFrom_43 (by decide) fl_X2_130 (by first | assumption | rfl | exact knd_w (by omega)) rfl rfl ?_
                refine z_iconst (v := (-1)) dX2_backFrom_46 (by decide) rfl ?_
                refine z_icmp_ne (tgt := 52) dX2_backFrom_47 (by decide) rfl (fun h3 => ?_) (fun h3 => ?_)
                · exact absurd (by rw [hbk j hjn, hy]; rfl) h3
                · refine z_iconst (v := (-1)) dX2_backFrom_50 (by decide) rfl ?_
                  exact z_ireturn dX2_backFrom_51 rfl ⟨by rw [hbn]; rfl, rfl⟩ (Nat.le_of_ble_eq_true rfl) (Nat.le_of_ble_eq_true rfl)
              | some x =>
                have hx40 := hb40 j x hy
                have eb : M (j + 17) 4 = nI x := by rw [hbk j hjn, hy]; rfl
                refine z_aload_n dX2_backFrom_36 rfl rfl ?_
                refine z_gr2 (j := 0) dX2_backFrom_37 (by decide) fl_X2_11 rfl rfl rfl ?_
                refine z_iload dX2_backFrom_40 rfl rfl ?_
                refine z_aldW dX2_backFrom_42 rfl rfl (by omega) (by decide) rfl ?_
                refine z_gi4 (j := 4) dX2_backFrom_43 (by decide) fl_X2_130 (by first | assumption | rfl | exact knd_w (by omega)) rfl rfl ?_
                refine z_iconst (v := (-1)) dX2_backFrom_46 (by decide) rfl ?_
                refine z_icmp_ne (tgt := 52) dX2_backFrom_47 (by decide) rfl (fun h3 => ?_) (fun h3 => ?_)
                · refine z_iload_n dX2_backFrom_52 rfl rfl ?_
                  refine z_aload_n dX2_backFrom_53 rfl rfl ?_
                  refine z_gr2 (j := 0) dX2_backFrom_54 (by decide) fl_X2_11 rfl rfl rfl ?_
                  refine z_iload dX2_backFrom_57 rfl rfl ?_
                  refine z_aldW dX2_backFrom_59 rfl rfl (by omega) (by decide) rfl ?_
                  refine z_gi4 (j := 4) dX2_backFrom_60 (by decide) fl_X2_130 (by first | assumption | rfl | exact knd_w (by omega)) rfl rfl ?_
                  refine z_iadd dX2_backFrom_63 rfl ?_
                  refine z_tp (b := (nI (v + x))) (by rw [eb, nI_add]) ?_
                  refine z_ist3 dX2_backFrom_64 (Nat.le_of_ble_eq_true rfl) rfl ?_
                  first | refine z_iu4 dX2_backFrom_65 (Nat.le_of_ble_eq_true rfl) rfl ?_ | refine z_inc4 dX2_backFrom_65 (Nat.le_of_ble_eq_true rfl) rfl rfl ?_
                  refine z_goto (tgt := 5) dX2_backFrom_68 (by decide) ?_
                  exact ih (j + 1) (v + x) (by omega) (by rw [backS, hv, hx]; simp only; rw [if_pos hlt, hy])
                · rw [eb] at h3; exact absurd h3 (nI_nm1 (by omega))
  exact loop n 0 h (by omega) rfl
set_option maxHeartbeats 8000000 in
theorem c_X2_lateBacks {l : Launch} {E : EnT} (hst : l.stackTraces = false) (M : Mem) (n h dr lim : Nat) (sf : Nat → Sch) (bk : Nat → Option Nat) (hd : M 2 4 = nI dr) (h20 : dr ≤ 20) (hl : lim ≤ 1000) (hn : M 2 3 = nI n) (h16 : n ≤ 16) (hh : h ≤ 1000) (hs : ∀ d w, d < dr → w < n → M (d + 79) w = stI (sf d w)) (hsb : ∀ d w b, sf d w = some b → b ≤ 100000) (hbk : ∀ w, w < n → M (w + 17) 4 = enI (bk w)) (hb40 : ∀ w x, bk w = some x → x ≤ 40) : Mm l E mX2_lateBacks 1 0 0 [.ref 2, .int (nI h), .int (nI lim)] M (Rt (some (.int (enI (drS dr (lateS lim (fun d => backS (sf d) bk h n) dr))))) M) := by
  refine Mm_go hst (by decide) rfl (Nat.le_of_ble_eq_true rfl) [some (.ref 2), some (.int (nI h)), some (.int (nI lim)), none, none, none] rfl ?_
  refine z_iconst (v := 0) dX2_lateBacks_0 (by decide) rfl ?_
  refine z_ist3 dX2_lateBacks_1 (Nat.le_of_ble_eq_true rfl) rfl ?_
  refine z_iconst (v := 0) dX2_lateBacks_2 (by decide) rfl ?_
  refine z_ist4 dX2_lateBacks_3 (Nat.le_of_ble_eq_true rfl) rfl ?_
  generalize hf : (fun d => backS (sf d) bk h n) = f
  have hfb : ∀ d x, f d = some x → x ≤ 2000 := fun d x hx => by
    rw [← hf] at hx
    have := backS_bd hb40 hx
    omega
  have loop : ∀ (k j s : Nat), j + k = dr → lateS lim f j = some s → ∀ (u : Option Value), Zz (zx l E mX2_lateBacks 1 (Rt (some (.int (enI (drS dr (lateS lim f dr))))) M)) 0 0 5 [some (.ref 2), some (.int (nI h)), some (.int (nI lim)), some (.int (nI s)), some (.int (nI j)), u] [] M := by
    intro k
    induction k with
    | zero =>
      intro j s hj hs9 u
      have ej : j = dr := by omega
      subst ej
      refine z_iload dX2_lateBacks_5 rfl rfl ?_
      refine z_aload_n dX2_lateBacks_7 rfl rfl ?_
      refine z_gi2 (j := 4) dX2_lateBacks_8 (by decide) fl_X2_31 rfl rfl rfl ?_
      refine z_icmp_ge (tgt := 55) dX2_lateBacks_11 (by decide) rfl (fun hc => ?_) (fun hc => ?_)
      · refine z_aload_n dX2_lateBacks_55 rfl rfl ?_
        refine z_gi2 (j := 4) dX2_lateBacks_56 (by decide) fl_X2_31 rfl rfl rfl ?_
        refine z_if_ne (tgt := 66) dX2_lateBacks_59 (by decide) rfl (fun h1 => ?_) (fun h1 => ?_)
        · have : drS j (lateS lim f j) = some s := by unfold drS; rw [if_neg (fun q => h1 (by rw [hd, q]; rfl)), hs9]
          refine z_iload_n dX2_lateBacks_66 rfl rfl ?_
          exact z_ireturn dX2_lateBacks_67 rfl ⟨by rw [this]; rfl, rfl⟩ (Nat.le_of_ble_eq_true rfl) (Nat.le_of_ble_eq_true rfl)
        · have : drS j (lateS lim f j) = none := by unfold drS; rw [if_pos ((nI_eq (by omega) (by decide)).mp (hd.symm.trans h1))]
          refine z_iconst (v := (-1)) dX2_lateBacks_62 (by decide) rfl ?_
          refine z_goto (tgt := 67) dX2_lateBacks_63 (by decide) ?_
          exact z_ireturn dX2_lateBacks_67 rfl ⟨by rw [this]; rfl, rfl⟩ (Nat.le_of_ble_eq_true rfl) (Nat.le_of_ble_eq_true rfl)
      · exact absurd (by rw [hd]; exact nI_le (Nat.le_refl _) (by omega)) hc
    | succ k ih =>
      intro j s hj hs9 u
      refine z_iload dX2_lateBacks_5 rfl rfl ?_
      refine z_aload_n dX2_lateBacks_7 rfl rfl ?_
      refine z_gi2 (j := 4) dX2_lateBacks_8 (by decide) fl_X2_31 rfl rfl rfl ?_
      refine z_icmp_ge (tgt := 55) dX2_lateBacks_11 (by decide) rfl (fun hc => ?_) (fun hc => ?_)
      · exact absurd hc (by rw [hd]; exact nI_ge (by omega) (by omega))
      · refine z_aload_n dX2_lateBacks_14 rfl rfl ?_
        refine z_iload_n dX2_lateBacks_15 rfl rfl ?_
        refine z_aload_n dX2_lateBacks_16 rfl rfl ?_
        refine z_gr2 (j := 2) dX2_lateBacks_17 (by decide) fl_X2_23 rfl rfl rfl ?_
        refine z_iconst (v := 2) dX2_lateBacks_20 (by decide) rfl ?_
        refine z_iload dX2_lateBacks_21 rfl rfl ?_
        refine z_iadd dX2_lateBacks_23 rfl ?_
        refine z_aldR (j := j + 2) dX2_lateBacks_24 rfl (by rw [show (2 : Int32) = nI 2 from rfl, nI_add, Nat.add_comm]) (by omega) (by decide) rfl ?_
        refine z_cv2 (ci := 2) (nf := 11) (y := mX2_backFrom) dX2_lateBacks_25 ml_X2_126 iv_X2_backFrom (Nat.le_of_ble_eq_true rfl) rfl (by decide) rfl (Nat.le_of_ble_eq_true rfl) (Nat.le_of_ble_eq_true rfl) (Nat.le_of_ble_eq_true rfl) (c_X2_backFrom hst M n h j (sf j) bk hn h16 (by omega) hh (fun w hw => hs j w (by omega) hw) (hsb j) hbk hb40) rfl ?_
        refine z_tp (b := (enI (f j))) (by rw [← hf]) ?_
        cases hx : f j with
        | none =>
          have hn : drS dr (lateS lim f dr) = none := by
            unfold drS
            rw [if_neg (by omega), lateS_none (a := j + 1) (by rw [lateS, hs9, hx]) (by omega)]
          refine z_ist5 dX2_lateBacks_28 (Nat.le_of_ble_eq_true rfl) rfl ?_
          refine z_iload dX2_lateBacks_30 rfl rfl ?_
          refine z_iconst (v := (-1)) dX2_lateBacks_32 (by decide) rfl ?_
          refine z_icmp_ne (tgt := 38) dX2_lateBacks_33 (by decide) rfl (fun h1 => ?_) (fun h1 => ?_)
          · exact absurd rfl h1
          · refine z_iconst (v := (-1)) dX2_lateBacks_36 (by decide) rfl ?_
            exact z_ireturn dX2_lateBacks_37 rfl ⟨by rw [hn]; rfl, rfl⟩ (Nat.le_of_ble_eq_true rfl) (Nat.le_of_ble_eq_true rfl)
        | some x =>
          have hxb := hfb j x hx
          have hsb := lateS_bd (m := 2000) hfb hs9
          refine z_ist5 dX2_lateBacks_28 (Nat.le_of_ble_eq_true rfl) rfl ?_
          refine z_iload dX2_lateBacks_30 rfl rfl ?_
          refine z_iconst (v := (-1)) dX2_lateBacks_32 (by decide) rfl ?_
          refine z_icmp_ne (tgt := 38) dX2_lateBacks_33 (by decide) rfl (fun h1 => ?_) (fun h1 => ?_)
          · refine z_iload_n dX2_lateBacks_38 rfl rfl ?_
            refine z_iconst (v := 0) dX2_lateBacks_39 (by decide) rfl ?_
            refine z_iload dX2_lateBacks_40 rfl rfl ?_
            refine z_iload_n dX2_lateBacks_42 rfl rfl ?_
            refine z_isub dX2_lateBacks_43 rfl ?_
            refine z_mmax dX2_lateBacks_44 ml_X2_123 (Nat.le_of_ble_eq_true rfl) (Nat.le_of_ble_eq_true rfl) (Nat.le_of_ble_eq_true rfl) (Nat.le_of_ble_eq_true rfl) rfl ?_
            refine z_tp (b := nI (x - lim)) (maxsub (by omega) (by omega)) ?_
            refine z_iadd dX2_lateBacks_47 rfl ?_
            refine z_tp (b := (nI (s + (x - lim)))) (nI_add _ _) ?_
            refine z_ist3 dX2_lateBacks_48 (Nat.le_of_ble_eq_true rfl) rfl ?_
            first | refine z_iu4 dX2_lateBacks_49 (Nat.le_of_ble_eq_true rfl) rfl ?_ | refine z_inc4 dX2_lateBacks_49 (Nat.le_of_ble_eq_true rfl) rfl rfl ?_
            refine z_goto (tgt := 5) dX2_lateBacks_52 (by decide) ?_
            exact ih (j + 1) (s + (x - lim)) (by omega) (by rw [lateS, hs9, hx]) _
          · exact absurd h1 (nI_nm1 (by omega))
  exact loop dr 0 0 (by omega) rfl _
set_option maxHeartbeats 4000000 in
theorem c_X6_part {l : Launch} {E : EnT} (hst : l.stackTraces = false) (M : Mem) (B : Bw) (od : Nat → Nat) (dr lim : Nat) (hd : M 2 4 = nI dr) (h20 : dr ≤ 20) (hW : ∀ r, r < dr + 2 → WC (rowP B r) M r) (hod : ∀ k, k < B.1 → M 9 k = nI (od k) ∧ od k < B.1) (hlm : M 0 6 = nI lim) (hl : lim ≤ 1000) : Mm l E mX6_part 4 0 0 [.ref 0] M (RP (some (.int (nI (partS lim (fun d => if d < dr then endS (rowP B (d + 2)) od else none) dr)))) (fun N => Eqx Sd M N)) := by
  refine Mm_go hst (by decide) rfl (Nat.le_of_ble_eq_true rfl) [some (.ref 0)] rfl ?_
  refine z_aload_n dX6_part_0 rfl rfl ?_
  refine z_gr6 (j := 1) dX6_part_1 (by decide) fl_X6_19 rfl rfl rfl ?_
  refine z_cp0 (ci := 2) (nf := 11) (y := mX2_walkDraws) dX6_part_4 ml_X6_177 iv_X2_walkDraws (Nat.le_of_ble_eq_true rfl) rfl (by decide) rfl (Nat.le_of_ble_eq_true rfl) (Nat.le_of_ble_eq_true rfl) (Nat.le_of_ble_eq_true rfl) (c_X2_walkDraws hst M B od dr hd h20 hW hod) rfl ?_
  intro N ⟨hE, hD⟩
  have e4 : N 2 4 = nI dr := by rw [hE 2 4 (by unfold Sd; omega)]; exact hd
  have hfb : ∀ d x, (if d < dr then endS (rowP B (d + 2)) od else none) = some x → x ≤ 100000 := fun d x hx => by
    split at hx
    · rename_i q
      have := end_bd (P := rowP B (d + 2)) (hW (d + 2) (by omega)).2.1 (fun k hk => (hod k hk).2) (fun w hw => ((hW (d + 2) (by omega)).2.2.2.2 w hw).2.2.2.2.2.2) hx
      omega
    · cases hx
  refine z_aload_n dX6_part_7 rfl rfl ?_
  refine z_gr6 (j := 1) dX6_part_8 (by decide) fl_X6_19 rfl rfl rfl ?_
  refine z_aload_n dX6_part_11 rfl rfl ?_
  refine z_gi6 (j := 6) dX6_part_12 (by decide) fl_X6_45 rfl rfl rfl ?_
  refine z_tp (b := (nI lim)) (by rw [hE 0 6 (by unfold Sd; omega)]; exact hlm) ?_
  refine z_cv1 (ci := 2) (nf := 11) (y := mX2_drawsWithin) dX6_part_15 ml_X6_180 iv_X2_drawsWithin (Nat.le_of_ble_eq_true rfl) rfl (by decide) rfl (Nat.le_of_ble_eq_true rfl) (Nat.le_of_ble_eq_true rfl) (Nat.le_of_ble_eq_true rfl) (c_X2_drawsWithin hst N dr lim (fun d => if d < dr then endS (rowP B (d + 2)) od else none) e4 h20 hl (fun d hd => by rw [if_pos hd]; exact (hD d hd).2) hfb) rfl ?_
  exact z_ireturn dX6_part_18 rfl ⟨rfl, hE⟩ (Nat.le_of_ble_eq_true rfl) (Nat.le_of_ble_eq_true rfl)
set_option maxHeartbeats 4000000 in
theorem c_X6_on {l : Launch} {E : EnT} (hst : l.stackTraces = false) (M : Mem) (B : Bw) (od : Nat → Nat) (dr lim : Nat) (hd : M 2 4 = nI dr) (h20 : dr ≤ 20) (hW : ∀ r, r < dr + 2 → WC (rowP B r) M r) (hod : ∀ k, k < B.1 → M 9 k = nI (od k) ∧ od k < B.1) (hlm : M 0 6 = nI lim) (hl : lim ≤ 1000) : Mm l E mX6_on 4 0 0 [.ref 0] M (RP (some (.int (enI (drS dr (lateS lim (fun d => if d < dr then endS (rowP B (d + 2)) od else none) dr))))) (fun N => Eqx Sd M N)) := by
  refine Mm_go hst (by decide) rfl (Nat.le_of_ble_eq_true rfl) [some (.ref 0)] rfl ?_
  refine z_aload_n dX6_on_0 rfl rfl ?_
  refine z_gr6 (j := 1) dX6_on_1 (by decide) fl_X6_19 rfl rfl rfl ?_
  refine z_cp0 (ci := 2) (nf := 11) (y := mX2_walkDraws) dX6_on_4 ml_X6_177 iv_X2_walkDraws (Nat.le_of_ble_eq_true rfl) rfl (by decide) rfl (Nat.le_of_ble_eq_true rfl) (Nat.le_of_ble_eq_true rfl) (Nat.le_of_ble_eq_true rfl) (c_X2_walkDraws hst M B od dr hd h20 hW hod) rfl ?_
  intro N ⟨hE, hD⟩
  have e4 : N 2 4 = nI dr := by rw [hE 2 4 (by unfold Sd; omega)]; exact hd
  have hfb : ∀ d x, (if d < dr then endS (rowP B (d + 2)) od else none) = some x → x ≤ 100000 := fun d x hx => by
    split at hx
    · rename_i q
      have := end_bd (P := rowP B (d + 2)) (hW (d + 2) (by omega)).2.1 (fun k hk => (hod k hk).2) (fun w hw => ((hW (d + 2) (by omega)).2.2.2.2 w hw).2.2.2.2.2.2) hx
      omega
    · cases hx
  refine z_aload_n dX6_on_7 rfl rfl ?_
  refine z_gr6 (j := 1) dX6_on_8 (by decide) fl_X6_19 rfl rfl rfl ?_
  refine z_aload_n dX6_on_11 rfl rfl ?_
  refine z_gi6 (j := 6) dX6_on_12 (by decide) fl_X6_45 rfl rfl rfl ?_
  refine z_tp (b := (nI lim)) (by rw [hE 0 6 (by unfold Sd; omega)]; exact hlm) ?_
  refine z_cv1 (ci := 2) (nf := 11) (y := mX2_lateEnds) dX6_on_15 ml_X6_184 iv_X2_lateEnds (Nat.le_of_ble_eq_true rfl) rfl (by decide) rfl (Nat.le_of_ble_eq_true rfl) (Nat.le_of_ble_eq_true rfl) (Nat.le_of_ble_eq_true rfl) (c_X2_lateEnds hst N dr lim (fun d => if d < dr then endS (rowP B (d + 2)) od else none) e4 h20 hl (fun d hd => by rw [if_pos hd]; exact (hD d hd).2) hfb) rfl ?_
  exact z_ireturn dX6_on_18 rfl ⟨rfl, hE⟩ (Nat.le_of_ble_eq_true rfl) (Nat.le_of_ble_eq_true rfl)
