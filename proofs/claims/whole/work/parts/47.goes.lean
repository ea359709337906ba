/-! the reference's schedule -/
def WM (P : Pb) (N : Mem) (r : Nat) : Prop := N 99 14 = nI (pN P) ∧ pN P ≤ 16 ∧ N 99 15 = nI (pC P) ∧ pC P ≤ 60 ∧ ∀ w, w < pN P → N 104 w = nI (pD P w) ∧ pD P w ≤ 30 ∧ N 103 w = nI (pT P w) ∧ pT P w ≤ 3 ∧ (∀ o, o < 32 → bt (N 106 w) o = (decide (o < pN P) && pA P w o)) ∧ hrM N r w = nI (pH P w) ∧ 1 ≤ pH P w ∧ pH P w ≤ 40
def Sm (a : Nat) (_ : Nat) : Prop := a = 111 ∨ a = 112
theorem hrM_keep {M N : Mem} {r w : Nat} (he : Eqx Sm M N) : hrM N r w = hrM M r w := by
  unfold hrM
  rw [he 101 w (by unfold Sm; omega), he 102 w (by unfold Sm; omega), he 110 (16 * (r - 2) + w) (by unfold Sm; omega)]
theorem WM.keep {P : Pb} {M N : Mem} {r : Nat} (h : WM P M r) (he : Eqx Sm M N) : WM P N r := by
  obtain ⟨h1, h2, h3, h4, h5⟩ := h
  refine ⟨by rw [he 99 14 (by unfold Sm; omega)]; exact h1, h2, by rw [he 99 15 (by unfold Sm; omega)]; exact h3, h4, fun w hw => ?_⟩
  obtain ⟨g1, g2, g3, g4, g5, g6, g7⟩ := h5 w hw
  exact ⟨by rw [he 104 w (by unfold Sm; omega)]; exact g1, g2, by rw [he 103 w (by unfold Sm; omega)]; exact g3, g4, by rw [he 106 w (by unfold Sm; omega)]; exact g5, by rw [hrM_keep he]; exact g6, g7⟩
def MR (P : Pb) (N : Mem) (s : Sch) : Prop := (∀ w, w < pN P → N 111 w = stI (s w)) ∧ ∀ w b, w < pN P → s w = some b → N 112 w = nI (b + pH P w)
theorem okTo_mono {P : Pb} {s : Sch} {e : Nat → Bool} {w a b : Nat} (h : okTo P s e w b = true) (hab : a ≤ b) : okTo P s e w a = true := okTo_iff.mpr (fun o ho => okTo_iff.mp h o (by omega))
theorem stI_lt : ∀ {o : Option Nat}, (∀ b, o = some b → b < 2 ^ 31) → (stI o < 0 ↔ o = none)
  | none, _ => ⟨fun _ => rfl, fun _ => by decide⟩
  | some b, h => ⟨fun q => absurd q (nI_pos (h b rfl)), fun q => nomatch q⟩
set_option maxHeartbeats 8000000 in
theorem c_X7_mayBegin {l : Launch} {E : EnT} (hst : l.stackTraces = false) (N : Mem) (P : Pb) (r w h : Nat) (s : Sch) (hW : WM P N r) (hR : MR P N s) (hw : w < pN P) (hh : h ≤ 100000) (hB : ∀ w b, s w = some b → b ≤ 100000) : Mm l E mX7_mayBegin 0 0 0 [.ref 99, .int (nI w), .int (nI h)] N (Rt (some (.int (bI (may P s (isEnd P s h) w)))) N) := by
  obtain ⟨w1, w2, w3, w4, w5⟩ := hW
  obtain ⟨g1, g2, g3, g4, g5, g6, g7, g8⟩ := w5 w hw
  refine Mm_go hst (by decide) rfl (Nat.le_of_ble_eq_true rfl) [some (.ref 99), some (.int (nI w)), some (.int (nI h)), none, none] rfl ?_
  refine z_iconst (v := 0) dX7_mayBegin_0 (by decide) rfl ?_
  refine z_ist3 dX7_mayBegin_1 (Nat.le_of_ble_eq_true rfl) rfl ?_
  refine z_iconst (v := 0) dX7_mayBegin_2 (by decide) rfl ?_
  refine z_ist4 dX7_mayBegin_3 (Nat.le_of_ble_eq_true rfl) rfl ?_
  generalize hM : may P s (isEnd P s h) w = mb
  have u30 : ∀ m, m ≤ pN P → useTo P s (isEnd P s h) m ≤ 30 * m := fun m hm => useTo_le (fun v hv => (w5 v hv).2.1) hm
  have loop : ∀ (k o : Nat), o + k = pN P → okTo P s (isEnd P s h) w o = true → Zz (zx l E mX7_mayBegin 0 (Rt (some (.int (bI mb))) N)) 0 0 5 [some (.ref 99), some (.int (nI w)), some (.int (nI h)), some (.int (nI (useTo P s (isEnd P s h) o))), some (.int (nI o))] [] N := by
    intro k
    induction k with
    | zero =>
      intro o ho hok
      have eo : o = pN P := by omega
      subst eo
      have hu := u30 (pN P) (Nat.le_refl _)
      refine z_iload dX7_mayBegin_5 rfl rfl ?_
      refine z_aload_n dX7_mayBegin_7 rfl rfl ?_
      refine z_gi7 (j := 14) dX7_mayBegin_8 (by decide) fl_X7_144 rfl rfl rfl ?_
      refine z_icmp_ge (tgt := 120) dX7_mayBegin_11 (by decide) rfl (fun hc => ?_) (fun hc => ?_)
      · have ec : nI (useTo P s (isEnd P s h) (pN P)) + N 104 w = nI (useTo P s (isEnd P s h) (pN P) + pD P w) := by rw [g1, nI_add]
        refine z_iload_n dX7_mayBegin_120 rfl rfl ?_
        refine z_aload_n dX7_mayBegin_121 rfl rfl ?_
        refine z_gr7 (j := 10) dX7_mayBegin_122 (by decide) fl_X7_27 rfl rfl rfl ?_
        refine z_iload_n dX7_mayBegin_125 rfl rfl ?_
        refine z_iald dX7_mayBegin_126 (by first | rfl | exact knd_h (by omega) | exact knd_s (by omega)) rfl (by omega) (by decide) rfl ?_
        refine z_iadd dX7_mayBegin_127 rfl ?_
        refine z_aload_n dX7_mayBegin_128 rfl rfl ?_
        refine z_gi7 (j := 15) dX7_mayBegin_129 (by decide) fl_X7_39 rfl rfl rfl ?_
        refine z_icmp_gt (tgt := 139) dX7_mayBegin_132 (by decide) rfl (fun h1 => ?_) (fun h1 => ?_)
        · rw [ec, w3] at h1
          have := lt_nn h1 (by omega) (by omega)
          have e2 : mb = false := by rw [← hM]; unfold may; rw [hok]; simp; omega
          rw [e2]
          refine z_iconst (v := 0) dX7_mayBegin_139 (by decide) rfl ?_
          exact z_zreturn dX7_mayBegin_140 rfl rfl ⟨rfl, rfl⟩ (Nat.le_of_ble_eq_true rfl) (Nat.le_of_ble_eq_true rfl)
        · rw [ec, w3] at h1
          have := nlt_nn h1 (by omega) (by omega)
          have e2 : mb = true := by rw [← hM]; unfold may; rw [hok]; simp; omega
          rw [e2]
          refine z_iconst (v := 1) dX7_mayBegin_135 (by decide) rfl ?_
          refine z_goto (tgt := 140) dX7_mayBegin_136 (by decide) ?_
          exact z_zreturn dX7_mayBegin_140 rfl rfl ⟨rfl, rfl⟩ (Nat.le_of_ble_eq_true rfl) (Nat.le_of_ble_eq_true rfl)
      · exact absurd (by rw [w1]; exact nI_le (Nat.le_refl _) (by omega)) hc
    | succ k ih =>
      intro o ho hok
      have hon : o < pN P := by omega
      obtain ⟨o1, o2, o3, o4, o5, o6, o7, o8⟩ := w5 o hon
      have no : okTo P s (isEnd P s h) w (o + 1) = false → mb = false := fun q => by
        rw [← hM]; unfold may
        cases hk : okTo P s (isEnd P s h) w (pN P)
        · rfl
        · rw [okTo_mono hk (show o + 1 ≤ pN P by omega)] at q; cases q
      have tb : ((N 106 w >>> (nI o &&& 31)) &&& 1 = 1) ↔ pA P w o = true := by
        rw [b_test (by omega), g5 o (by omega)]; simp [hon]
      have hb0 : N 111 o = stI (s o) := hR.1 o hon
      have hlt : (N 111 o < 0) ↔ s o = none := by rw [hb0]; exact stI_lt (fun b q => by have := hB o b q; omega)
      -- behind the first test
      have p2 : (pA P w o = true → isEnd P s h o = true) → Zz (zx l E mX7_mayBegin 0 (Rt (some (.int (bI mb))) N)) 0 0 52 [some (.ref 99), some (.int (nI w)), some (.int (nI h)), some (.int (nI (useTo P s (isEnd P s h) o))), some (.int (nI o))] [] N := fun ha => by
        have skp : runs s (isEnd P s h) o = false → Zz (zx l E mX7_mayBegin 0 (Rt (some (.int (bI mb))) N)) 0 0 114 [some (.ref 99), some (.int (nI w)), some (.int (nI h)), some (.int (nI (useTo P s (isEnd P s h) o))), some (.int (nI o))] [] N := fun hr => by
          have e1 : useTo P s (isEnd P s h) (o + 1) = useTo P s (isEnd P s h) o := by rw [useTo, hr]; simp
          have e2 : okTo P s (isEnd P s h) w (o + 1) = true := okTo_iff.mpr (fun v hv => by
            rcases Nat.lt_or_ge v o with q | q
            · exact okTo_iff.mp hok v q
            · have : v = o := by omega
              subst this
              exact ⟨ha, fun q => by rw [hr] at q; cases q.1⟩)
          have ih1 := ih (o + 1) (by omega) e2
          rw [e1] at ih1
          first | refine z_iu4 dX7_mayBegin_114 (Nat.le_of_ble_eq_true rfl) rfl ?_ | refine z_inc4 dX7_mayBegin_114 (Nat.le_of_ble_eq_true rfl) rfl rfl ?_
          refine z_goto (tgt := 5) dX7_mayBegin_117 (by decide) ?_
          exact ih1
        refine z_aload_n dX7_mayBegin_52 rfl rfl ?_
        refine z_gr7 (j := 22) dX7_mayBegin_53 (by decide) fl_X7_55 rfl rfl rfl ?_
        refine z_iload dX7_mayBegin_56 rfl rfl ?_
        refine z_iald dX7_mayBegin_58 (by first | rfl | exact knd_h (by omega) | exact knd_s (by omega)) rfl (by omega) (by decide) rfl ?_
        refine z_if_lt (tgt := 114) dX7_mayBegin_59 (by decide) rfl (fun h1 => ?_) (fun h1 => ?_)
        · exact skp (by unfold runs; rw [hlt.mp h1]; rfl)
        · obtain ⟨b, hb⟩ : ∃ b, s o = some b := by
            cases hs : s o with
            | none => exact absurd (hlt.mpr hs) h1
            | some b => exact ⟨b, rfl⟩
          have hbb := hB o b hb
          have he : N 112 o = nI (b + pH P o) := hR.2 o b hon hb
          refine z_aload_n dX7_mayBegin_62 rfl rfl ?_
          refine z_gr7 (j := 23) dX7_mayBegin_63 (by decide) fl_X7_58 rfl rfl rfl ?_
          refine z_iload dX7_mayBegin_66 rfl rfl ?_
          refine z_iald dX7_mayBegin_68 (by first | rfl | exact knd_h (by omega) | exact knd_s (by omega)) rfl (by omega) (by decide) rfl ?_
          refine z_iload_n dX7_mayBegin_69 rfl rfl ?_
          refine z_icmp_gt (tgt := 76) dX7_mayBegin_70 (by decide) rfl (fun h2 => ?_) (fun h2 => ?_)
          · rw [he] at h2
            have h2n := lt_nn h2 (by omega) (by omega)
            have hrun : runs s (isEnd P s h) o = true := by unfold runs; rw [isEnd_some hb, hb]; simp; omega
            have adu : (pT P o = 0 ∨ pT P o ≠ pT P w) → Zz (zx l E mX7_mayBegin 0 (Rt (some (.int (bI mb))) N)) 0 0 104 [some (.ref 99), some (.int (nI w)), some (.int (nI h)), some (.int (nI (useTo P s (isEnd P s h) o))), some (.int (nI o))] [] N := fun hth => by
              have e1 : useTo P s (isEnd P s h) (o + 1) = useTo P s (isEnd P s h) o + pD P o := by rw [useTo, hrun]; simp
              have e2 : okTo P s (isEnd P s h) w (o + 1) = true := okTo_iff.mpr (fun v hv => by
                rcases Nat.lt_or_ge v o with q | q
                · exact okTo_iff.mp hok v q
                · have : v = o := by omega
                  subst this
                  exact ⟨ha, fun q => by rcases hth with z | z <;> omega⟩)
              have ih1 := ih (o + 1) (by omega) e2
              rw [e1] at ih1
              refine z_iload_n dX7_mayBegin_104 rfl rfl ?_
              refine z_aload_n dX7_mayBegin_105 rfl rfl ?_
              refine z_gr7 (j := 10) dX7_mayBegin_106 (by decide) fl_X7_27 rfl rfl rfl ?_
              refine z_iload dX7_mayBegin_109 rfl rfl ?_
              refine z_iald dX7_mayBegin_111 (by first | rfl | exact knd_h (by omega) | exact knd_s (by omega)) rfl (by omega) (by decide) rfl ?_
              refine z_iadd dX7_mayBegin_112 rfl ?_
              refine z_tp (b := (nI (useTo P s (isEnd P s h) o + pD P o))) (by rw [o1, nI_add]) ?_
              refine z_ist3 dX7_mayBegin_113 (Nat.le_of_ble_eq_true rfl) rfl ?_
              first | refine z_iu4 dX7_mayBegin_114 (Nat.le_of_ble_eq_true rfl) rfl ?_ | refine z_inc4 dX7_mayBegin_114 (Nat.le_of_ble_eq_true rfl) rfl rfl ?_
              refine z_goto (tgt := 5) dX7_mayBegin_117 (by decide) ?_
              exact ih1
            refine z_aload_n dX7_mayBegin_76 rfl rfl ?_
            refine z_gr7 (j := 9) dX7_mayBegin_77 (by decide) fl_X7_24 rfl rfl rfl ?_
            refine z_iload dX7_mayBegin_80 rfl rfl ?_
            refine z_iald dX7_mayBegin_82 (by first | rfl | exact knd_h (by omega) | exact knd_s (by omega)) rfl (by omega) (by decide) rfl ?_
            refine z_if_le (tgt := 104) dX7_mayBegin_83 (by decide) rfl (fun h3 => ?_) (fun h3 => ?_)
            · rw [o3] at h3
              refine adu (Or.inl ?_)
              have := le_nn (b := 0) h3 (by omega) (by decide)
              omega
            · rw [o3] at h3
              have h3n : 0 < pT P o := nle_nn (b := 0) h3 (by omega) (by decide)
              refine z_aload_n dX7_mayBegin_86 rfl rfl ?_
              refine z_gr7 (j := 9) dX7_mayBegin_87 (by decide) fl_X7_24 rfl rfl rfl ?_
              refine z_iload dX7_mayBegin_90 rfl rfl ?_
              refine z_iald dX7_mayBegin_92 (by first | rfl | exact knd_h (by omega) | exact knd_s (by omega)) rfl (by omega) (by decide) rfl ?_
              refine z_aload_n dX7_mayBegin_93 rfl rfl ?_
              refine z_gr7 (j := 9) dX7_mayBegin_94 (by decide) fl_X7_24 rfl rfl rfl ?_
              refine z_iload_n dX7_mayBegin_97 rfl rfl ?_
              refine z_iald dX7_mayBegin_98 (by first | rfl | exact knd_h (by omega) | exact knd_s (by omega)) rfl (by omega) (by decide) rfl ?_
              refine z_icmp_ne (tgt := 104) dX7_mayBegin_99 (by decide) rfl (fun h4 => ?_) (fun h4 => ?_)
              · refine adu (Or.inr (fun q => h4 ?_))
                rw [o3, g3, q]
              · have hq : pT P o = pT P w := (nI_eq (by omega) (by omega)).mp (o3.symm.trans (h4.trans g3))
                have : okTo P s (isEnd P s h) w (o + 1) = false := by
                  cases hk : okTo P s (isEnd P s h) w (o + 1)
                  · rfl
                  · exact absurd ⟨hrun, h3n, hq⟩ (okTo_iff.mp hk o (by omega)).2
                rw [no this]
                refine z_iconst (v := 0) dX7_mayBegin_102 (by decide) rfl ?_
                exact z_zreturn dX7_mayBegin_103 rfl rfl ⟨rfl, rfl⟩ (Nat.le_of_ble_eq_true rfl) (Nat.le_of_ble_eq_true rfl)
          · rw [he] at h2
            have h2n := nlt_nn h2 (by omega) (by omega)
            refine z_goto (tgt := 114) dX7_mayBegin_73 (by decide) ?_
            exact skp (by unfold runs; rw [isEnd_some hb, hb]; simp; omega)
      have bad : pA P w o = true → isEnd P s h o = false → Zz (zx l E mX7_mayBegin 0 (Rt (some (.int (bI mb))) N)) 0 0 50 [some (.ref 99), some (.int (nI w)), some (.int (nI h)), some (.int (nI (useTo P s (isEnd P s h) o))), some (.int (nI o))] [] N := fun ha he => by
        have : okTo P s (isEnd P s h) w (o + 1) = false := by
          cases hk : okTo P s (isEnd P s h) w (o + 1)
          · rfl
          · have := (okTo_iff.mp hk o (by omega)).1 ha
            rw [he] at this; cases this
        rw [no this]
        refine z_iconst (v := 0) dX7_mayBegin_50 (by decide) rfl ?_
        exact z_zreturn dX7_mayBegin_51 rfl rfl ⟨rfl, rfl⟩ (Nat.le_of_ble_eq_true rfl) (Nat.le_of_ble_eq_true rfl)
      refine z_iload dX7_mayBegin_5 rfl rfl ?_
      refine z_aload_n dX7_mayBegin_7 rfl rfl ?_
      refine z_gi7 (j := 14) dX7_mayBegin_8 (by decide) fl_X7_144 rfl rfl rfl ?_
      refine z_icmp_ge (tgt := 120) dX7_mayBegin_11 (by decide) rfl (fun hc => ?_) (fun hc => ?_)
      · exact absurd hc (by rw [w1]; exact nI_ge (by omega) (by omega))
      · refine z_aload_n dX7_mayBegin_14 rfl rfl ?_
        refine z_gr7 (j := 12) dX7_mayBegin_15 (by decide) fl_X7_33 rfl rfl rfl ?_
        refine z_iload_n dX7_mayBegin_18 rfl rfl ?_
        refine z_iald dX7_mayBegin_19 (by first | rfl | exact knd_h (by omega) | exact knd_s (by omega)) rfl (by omega) (by decide) rfl ?_
        refine z_iload dX7_mayBegin_20 rfl rfl ?_
        refine z_ishr dX7_mayBegin_22 rfl ?_
        refine z_iconst (v := 1) dX7_mayBegin_23 (by decide) rfl ?_
        refine z_iand dX7_mayBegin_24 rfl ?_
        refine z_iconst (v := 1) dX7_mayBegin_25 (by decide) rfl ?_
        refine z_icmp_ne (tgt := 52) dX7_mayBegin_26 (by decide) rfl (fun h1 => ?_) (fun h1 => ?_)
        · exact p2 (fun q => absurd (tb.mpr q) h1)
        · have ha := tb.mp h1
          refine z_aload_n dX7_mayBegin_29 rfl rfl ?_
          refine z_gr7 (j := 22) dX7_mayBegin_30 (by decide) fl_X7_55 rfl rfl rfl ?_
          refine z_iload dX7_mayBegin_33 rfl rfl ?_
          refine z_iald dX7_mayBegin_35 (by first | rfl | exact knd_h (by omega) | exact knd_s (by omega)) rfl (by omega) (by decide) rfl ?_
          refine z_if_lt (tgt := 50) dX7_mayBegin_36 (by decide) rfl (fun h2 => ?_) (fun h2 => ?_)
          · exact bad ha (isEnd_none (hlt.mp h2))
          · obtain ⟨b, hb⟩ : ∃ b, s o = some b := by
              cases hs : s o with
              | none => exact absurd (hlt.mpr hs) h2
              | some b => exact ⟨b, rfl⟩
            have hbb := hB o b hb
            have he : N 112 o = nI (b + pH P o) := hR.2 o b hon hb
            refine z_aload_n dX7_mayBegin_39 rfl rfl ?_
            refine z_gr7 (j := 23) dX7_mayBegin_40 (by decide) fl_X7_58 rfl rfl rfl ?_
            refine z_iload dX7_mayBegin_43 rfl rfl ?_
            refine z_iald dX7_mayBegin_45 (by first | rfl | exact knd_h (by omega) | exact knd_s (by omega)) rfl (by omega) (by decide) rfl ?_
            refine z_iload_n dX7_mayBegin_46 rfl rfl ?_
            refine z_icmp_le (tgt := 52) dX7_mayBegin_47 (by decide) rfl (fun h3 => ?_) (fun h3 => ?_)
            · rw [he] at h3
              have h3n := le_nn h3 (by omega) (by omega)
              exact p2 (fun _ => by rw [isEnd_some hb]; simp; omega)
            · rw [he] at h3
              have h3n := nle_nn h3 (by omega) (by omega)
              exact bad ha (by rw [isEnd_some hb]; simp; omega)
  exact loop (pN P) 0 (by omega) rfl
