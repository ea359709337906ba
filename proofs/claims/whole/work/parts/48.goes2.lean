set_option maxHeartbeats 8000000 in
theorem c_X7_goes {l : Launch} {E : EnT} (hst : l.stackTraces = false) (M : Mem) (P : Pb) (r : Nat) (od : Nat → Nat) (hr : r < 22) (hW : WM P M r) (hod : ∀ k, k < pN P → M 107 k = nI (od k) ∧ od k < pN P) : Mm l E mX7_goes 1 0 0 [.ref 99, .int (nI r)] M (RP (some (.int (enI (endS P od)))) (fun N => Eqx Sm M N ∧ ∀ w, w < pN P → N 111 w = stI (schd P od w))) := by
  refine Mm_go hst (by decide) rfl (Nat.le_of_ble_eq_true rfl) [some (.ref 99), some (.int (nI r)), none, none, none, none] rfl ?_
  have h16 : pN P ≤ 16 := hW.2.1
  have hodn : ∀ k, k < pN P → od k < pN P := fun k hk => (hod k hk).2
  have hH : ∀ w, w < pN P → 1 ≤ pH P w ∧ pH P w ≤ 40 := fun w hw => (hW.2.2.2.2 w hw).2.2.2.2.2.2
  generalize hQ : (RP (some (.int (enI (endS P od)))) (fun N => Eqx Sm M N ∧ ∀ w, w < pN P → N 111 w = stI (schd P od w))) = Q
  -- the last loop
  have fin : ∀ (N : Mem) (s : Sch) (h : Nat) (u : Option Value), Eqx Sm M N → MR P N s → (∀ w b, s w = some b → b ≤ 100000) → goS P od (pN P + 1) s0 0 = (s, h) → ∀ (k j : Nat), j + k = pN P → allB s j = true → Zz (zx l E mX7_goes 1 Q) 0 0 194 [some (.ref 99), some (.int (nI r)), some (.int (nI 1000000)), some (.int (nI h)), some (.int (nI j)), u] [] N := by
    intro N s h u hE hR hB hgo k
    have hWN := hW.keep hE
    have hsch : schd P od = s := by unfold schd; rw [hgo]
    induction k with
    | zero =>
      intro j hj ha
      have ej : j = pN P := by omega
      subst ej
      have hn : endS P od = some h := by unfold endS; rw [hsch, if_pos ha, hgo]
      refine z_iload dX7_goes_194 rfl rfl ?_
      refine z_aload_n dX7_goes_196 rfl rfl ?_
      refine z_gi7 (j := 14) dX7_goes_197 (by decide) fl_X7_144 rfl rfl rfl ?_
      refine z_icmp_ge (tgt := 221) dX7_goes_200 (by decide) rfl (fun hc => ?_) (fun hc => ?_)
      · rw [← hQ]
        refine z_iload_n dX7_goes_221 rfl rfl ?_
        exact z_ireturn dX7_goes_222 rfl ⟨by rw [hn]; rfl, hE, fun w hw => by rw [hsch]; exact hR.1 w hw⟩ (Nat.le_of_ble_eq_true rfl) (Nat.le_of_ble_eq_true rfl)
      · exact absurd (by rw [hWN.1]; exact nI_le (Nat.le_refl _) (by omega)) hc
    | succ k ih =>
      intro j hj ha
      have hlt : (N 111 j < 0) ↔ s j = none := by rw [hR.1 j (by omega)]; exact stI_lt (fun b q => by have := hB j b q; omega)
      refine z_iload dX7_goes_194 rfl rfl ?_
      refine z_aload_n dX7_goes_196 rfl rfl ?_
      refine z_gi7 (j := 14) dX7_goes_197 (by decide) fl_X7_144 rfl rfl rfl ?_
      refine z_icmp_ge (tgt := 221) dX7_goes_200 (by decide) rfl (fun hc => ?_) (fun hc => ?_)
      · exact absurd hc (by rw [hWN.1]; exact nI_ge (by omega) (by omega))
      · refine z_aload_n dX7_goes_203 rfl rfl ?_
        refine z_gr7 (j := 22) dX7_goes_204 (by decide) fl_X7_55 rfl rfl rfl ?_
        refine z_iload dX7_goes_207 rfl rfl ?_
        refine z_iald dX7_goes_209 (by first | rfl | exact knd_h (by omega) | exact knd_s (by omega)) rfl (by omega) (by decide) rfl ?_
        refine z_if_ge (tgt := 215) dX7_goes_210 (by decide) rfl (fun h1 => ?_) (fun h1 => ?_)
        · first | refine z_iu4 dX7_goes_215 (Nat.le_of_ble_eq_true rfl) rfl ?_ | refine z_inc4 dX7_goes_215 (Nat.le_of_ble_eq_true rfl) rfl rfl ?_
          refine z_goto (tgt := 194) dX7_goes_218 (by decide) ?_
          refine ih (j + 1) (by omega) ?_
          unfold allB
          rw [ha, Bool.true_and]
          cases hs : s j with
          | none => exact absurd (hlt.mpr hs) (i32_nlt h1)
          | some b => rfl
        · have hs : s j = none := hlt.mp (i32_lt_of_nle h1)
          have hn : endS P od = none := by
            unfold endS
            rw [hsch, if_neg (fun q => by have := allB_iff.mp q j (by omega); rw [hs] at this; cases this)]
          rw [← hQ]
          refine z_iconst (v := (-1)) dX7_goes_213 (by decide) rfl ?_
          exact z_ireturn dX7_goes_214 rfl ⟨by rw [hn]; rfl, hE, fun w hw => by rw [hsch]; exact hR.1 w hw⟩ (Nat.le_of_ble_eq_true rfl) (Nat.le_of_ble_eq_true rfl)
  -- the beginning
  have bgl : ∀ (s : Sch) (h : Nat), h ≤ 100000 - 100 → Good P s h → (∀ (N2 : Mem) (u : Option Value), Eqx Sm M N2 → MR P N2 (bgTo P od h (isEnd P s h) s (pN P)) → Zz (zx l E mX7_goes 1 Q) 0 0 107 [some (.ref 99), some (.int (nI r)), some (.int (nI h)), some (.int (nI h)), some (.int (nI (pN P))), u] [] N2) → ∀ (t k : Nat), k + t = pN P → ∀ (N : Mem) (u : Option Value), Eqx Sm M N → MR P N (bgTo P od h (isEnd P s h) s k) → Zz (zx l E mX7_goes 1 Q) 0 0 36 [some (.ref 99), some (.int (nI r)), some (.int (nI h)), some (.int (nI h)), some (.int (nI k)), u] [] N := by
    intro s h hh hg hgo t
    induction t with
    | zero =>
      intro k hk N u hE hR
      have ek : k = pN P := by omega
      subst ek
      have hWN := hW.keep hE
      refine z_iload dX7_goes_36 rfl rfl ?_
      refine z_aload_n dX7_goes_38 rfl rfl ?_
      refine z_gi7 (j := 14) dX7_goes_39 (by decide) fl_X7_144 rfl rfl rfl ?_
      refine z_icmp_ge (tgt := 107) dX7_goes_42 (by decide) rfl (fun hc => ?_) (fun hc => ?_)
      · exact hgo N u hE hR
      · exact absurd (by rw [hWN.1]; exact nI_le (Nat.le_refl _) (by omega)) hc
    | succ t ih =>
      intro k hk N u hE hR
      have hWN := hW.keep hE
      have hw : od k < pN P := (hod k (by omega)).2
      have eo : N 107 k = nI (od k) := by rw [hE 107 k (by unfold Sm; omega)]; exact (hod k (by omega)).1
      have bgs : bgTo P od h (isEnd P s h) s (k + 1) = if bgTo P od h (isEnd P s h) s k (od k) = none ∧ may P (bgTo P od h (isEnd P s h) s k) (isEnd P s h) (od k) = true then sup (bgTo P od h (isEnd P s h) s k) (od k) h else bgTo P od h (isEnd P s h) s k := rfl
      have e1 : isEnd P (bgTo P od h (isEnd P s h) s k) h = isEnd P s h := funext (isEnd_bg hodn (fun w hw => (hH w hw).1) (by omega))
      have hBk : ∀ w b, bgTo P od h (isEnd P s h) s k w = some b → b ≤ h := fun w b hb => by
        rcases bgTo_out hodn (by omega) hb with q | ⟨-, q, -⟩
        · exact hg.1 w b q
        · omega
      generalize bgTo P od h (isEnd P s h) s k = sk at hR bgs e1 hBk
      have gon : ∀ (N2 : Mem), Eqx Sm M N2 → MR P N2 (bgTo P od h (isEnd P s h) s (k + 1)) → Zz (zx l E mX7_goes 1 Q) 0 0 101 [some (.ref 99), some (.int (nI r)), some (.int (nI h)), some (.int (nI h)), some (.int (nI k)), some (.int (nI (od k)))] [] N2 := fun N2 a b => by
        first | refine z_iu4 dX7_goes_101 (Nat.le_of_ble_eq_true rfl) rfl ?_ | refine z_inc4 dX7_goes_101 (Nat.le_of_ble_eq_true rfl) rfl rfl ?_
        refine z_goto (tgt := 36) dX7_goes_104 (by decide) ?_
        exact ih (k + 1) (by omega) N2 _ a b
      have hlt : (N 111 (od k) < 0) ↔ sk (od k) = none := by rw [hR.1 _ hw]; exact stI_lt (fun b q => by have := hBk _ b q; omega)
      refine z_iload dX7_goes_36 rfl rfl ?_
      refine z_aload_n dX7_goes_38 rfl rfl ?_
      refine z_gi7 (j := 14) dX7_goes_39 (by decide) fl_X7_144 rfl rfl rfl ?_
      refine z_icmp_ge (tgt := 107) dX7_goes_42 (by decide) rfl (fun hc => ?_) (fun hc => ?_)
      · exact absurd hc (by rw [hWN.1]; exact nI_ge (by omega) (by omega))
      · refine z_aload_n dX7_goes_45 rfl rfl ?_
        refine z_gr7 (j := 13) dX7_goes_46 (by decide) fl_X7_36 rfl rfl rfl ?_
        refine z_iload dX7_goes_49 rfl rfl ?_
        refine z_iald dX7_goes_51 (by first | rfl | exact knd_h (by omega) | exact knd_s (by omega)) rfl (by omega) (by decide) rfl ?_
        refine z_tp (b := (nI (od k))) eo ?_
        refine z_ist5 dX7_goes_52 (Nat.le_of_ble_eq_true rfl) rfl ?_
        refine z_aload_n dX7_goes_54 rfl rfl ?_
        refine z_gr7 (j := 22) dX7_goes_55 (by decide) fl_X7_55 rfl rfl rfl ?_
        refine z_iload dX7_goes_58 rfl rfl ?_
        refine z_iald dX7_goes_60 (by first | rfl | exact knd_h (by omega) | exact knd_s (by omega)) rfl (by omega) (by decide) rfl ?_
        refine z_if_ge (tgt := 101) dX7_goes_61 (by decide) rfl (fun h1 => ?_) (fun h1 => ?_)
        · refine gon N hE ?_
          rw [bgs, if_neg (fun q => i32_nlt h1 (hlt.mpr q.1))]; exact hR
        · have hs : sk (od k) = none := hlt.mp (i32_lt_of_nle h1)
          refine z_aload_n dX7_goes_64 rfl rfl ?_
          refine z_iload dX7_goes_65 rfl rfl ?_
          refine z_iload_n dX7_goes_67 rfl rfl ?_
          refine z_cv2 (ci := 7) (nf := 32) (y := mX7_mayBegin) dX7_goes_68 ml_X7_179 iv_X7_mayBegin (Nat.le_of_ble_eq_true rfl) rfl (by decide) rfl (Nat.le_of_ble_eq_true rfl) (Nat.le_of_ble_eq_true rfl) (Nat.le_of_ble_eq_true rfl) (c_X7_mayBegin hst N P r (od k) h sk hWN hR hw (by omega) (fun w b hb => by have := hBk w b hb; omega)) rfl ?_
          rw [e1]
          cases hm : may P sk (isEnd P s h) (od k) with
          | false =>
            refine z_if_ne (tgt := 77) dX7_goes_71 (by decide) rfl (fun h2 => ?_) (fun h2 => ?_)
            · exact absurd rfl h2
            · refine z_goto (tgt := 101) dX7_goes_74 (by decide) ?_
              refine gon N hE ?_
              rw [bgs, if_neg (fun q => by rw [hm] at q; cases q.2)]; exact hR
          | true =>
            refine z_if_ne (tgt := 77) dX7_goes_71 (by decide) rfl (fun h2 => ?_) (fun h2 => ?_)
            · obtain ⟨g1, g2, g3, g4, g5, g6, g7, g8⟩ := hWN.2.2.2.2 (od k) hw
              have hrk : hrM (mu N 111 (od k) (nI h)) r (od k) = nI (pH P (od k)) := by
                rw [hrM_keep (M := N) (Eqx.rf.mu (by unfold Sm; omega))]; exact g6
              refine z_aload_n dX7_goes_77 rfl rfl ?_
              refine z_gr7 (j := 22) dX7_goes_78 (by decide) fl_X7_55 rfl rfl rfl ?_
              refine z_iload dX7_goes_81 rfl rfl ?_
              refine z_iload_n dX7_goes_83 rfl rfl ?_
              refine z_iast dX7_goes_84 (by first | rfl | exact knd_h (by omega) | exact knd_s (by omega)) rfl (by omega) (by decide) rfl ?_
              refine z_aload_n dX7_goes_85 rfl rfl ?_
              refine z_gr7 (j := 23) dX7_goes_86 (by decide) fl_X7_58 rfl rfl rfl ?_
              refine z_iload dX7_goes_89 rfl rfl ?_
              refine z_iload_n dX7_goes_91 rfl rfl ?_
              refine z_aload_n dX7_goes_92 rfl rfl ?_
              refine z_iload_n dX7_goes_93 rfl rfl ?_
              refine z_iload dX7_goes_94 rfl rfl ?_
              refine z_cv2 (ci := 7) (nf := 32) (y := mX7_hoursOf) dX7_goes_96 ml_X7_175 iv_X7_hoursOf (Nat.le_of_ble_eq_true rfl) rfl (by decide) rfl (Nat.le_of_ble_eq_true rfl) (Nat.le_of_ble_eq_true rfl) (Nat.le_of_ble_eq_true rfl) (c_X7_hoursOf hst r (od k) (mu N 111 (od k) (nI h)) hr (by omega)) rfl ?_
              refine z_iadd dX7_goes_99 rfl ?_
              refine z_iast dX7_goes_100 (by first | rfl | exact knd_h (by omega) | exact knd_s (by omega)) rfl (by omega) (by decide) rfl ?_
              refine gon _ ((hE.mu (by unfold Sm; omega)).mu (by unfold Sm; omega)) ?_
              rw [bgs, if_pos ⟨hs, hm⟩]
              refine ⟨fun v hv => ?_, fun v b hv hb => ?_⟩
              · rw [mu_o (by decide), mu_k]
                unfold upd sup
                split
                · rfl
                · exact hR.1 v hv
              · rw [mu_k]
                unfold upd
                unfold sup at hb
                split
                · rename_i q
                  rw [if_pos q] at hb
                  cases hb
                  rw [hrk, nI_add, q]
                · rename_i q
                  rw [if_neg q] at hb
                  exact hR.2 v b hv hb
            · exact absurd h2 (by decide)
  -- the next hour
  have nxl : ∀ (N : Mem) (s1 : Sch) (e : Nat → Bool) (h : Nat), h ≤ 100000 - 100 → Eqx Sm M N → MR P N s1 → (∀ w b, s1 w = some b → b ≤ h) → (∀ w, isEnd P s1 h w = e w) → (∀ (u : Option Value), Zz (zx l E mX7_goes 1 Q) 0 0 171 [some (.ref 99), some (.int (nI r)), some (.int (nI h)), some (.int (nI h)), some (.int (nxI 1000000 (nxTo P s1 e (pN P)))), u] [] N) → ∀ (t k : Nat), k + t = pN P → Zz (zx l E mX7_goes 1 Q) 0 0 114 [some (.ref 99), some (.int (nI r)), some (.int (nI h)), some (.int (nI h)), some (.int (nxI 1000000 (nxTo P s1 e k))), some (.int (nI k))] [] N := by
    intro N s1 e h hh hE hR hB he hgo t
    have hWN := hW.keep hE
    induction t with
    | zero =>
      intro k hk
      have ek : k = pN P := by omega
      subst ek
      refine z_iload dX7_goes_114 rfl rfl ?_
      refine z_aload_n dX7_goes_116 rfl rfl ?_
      refine z_gi7 (j := 14) dX7_goes_117 (by decide) fl_X7_144 rfl rfl rfl ?_
      refine z_icmp_ge (tgt := 171) dX7_goes_120 (by decide) rfl (fun hc => ?_) (fun hc => ?_)
      · exact hgo _
      · exact absurd (by rw [hWN.1]; exact nI_le (Nat.le_refl _) (by omega)) hc
    | succ t ih =>
      intro k hk
      have hkn : k < pN P := by omega
      have ih1 := ih (k + 1) (by omega)
      have hlt : (N 111 k < 0) ↔ s1 k = none := by rw [hR.1 k hkn]; exact stI_lt (fun b q => by have := hB k b q; omega)
      have skp : nxTo P s1 e (k + 1) = nxTo P s1 e k → Zz (zx l E mX7_goes 1 Q) 0 0 165 [some (.ref 99), some (.int (nI r)), some (.int (nI h)), some (.int (nI h)), some (.int (nxI 1000000 (nxTo P s1 e k))), some (.int (nI k))] [] N := fun q => by
        rw [q] at ih1
        first | refine z_iu5 dX7_goes_165 (Nat.le_of_ble_eq_true rfl) rfl ?_ | refine z_inc5 dX7_goes_165 (Nat.le_of_ble_eq_true rfl) rfl rfl ?_
        refine z_goto (tgt := 114) dX7_goes_168 (by decide) ?_
        exact ih1
      refine z_iload dX7_goes_114 rfl rfl ?_
      refine z_aload_n dX7_goes_116 rfl rfl ?_
      refine z_gi7 (j := 14) dX7_goes_117 (by decide) fl_X7_144 rfl rfl rfl ?_
      refine z_icmp_ge (tgt := 171) dX7_goes_120 (by decide) rfl (fun hc => ?_) (fun hc => ?_)
      · exact absurd hc (by rw [hWN.1]; exact nI_ge (by omega) (by omega))
      · refine z_aload_n dX7_goes_123 rfl rfl ?_
        refine z_gr7 (j := 22) dX7_goes_124 (by decide) fl_X7_55 rfl rfl rfl ?_
        refine z_iload dX7_goes_127 rfl rfl ?_
        refine z_iald dX7_goes_129 (by first | rfl | exact knd_h (by omega) | exact knd_s (by omega)) rfl (by omega) (by decide) rfl ?_
        refine z_if_lt (tgt := 165) dX7_goes_130 (by decide) rfl (fun h1 => ?_) (fun h1 => ?_)
        · exact skp (by rw [nxTo, hlt.mp h1])
        · obtain ⟨b, hb⟩ : ∃ b, s1 k = some b := by
            cases hs : s1 k with
            | none => exact absurd (hlt.mpr hs) h1
            | some b => exact ⟨b, rfl⟩
          have hbb := hB k b hb
          have hp40 := (hH k hkn).2
          have hen : N 112 k = nI (b + pH P k) := hR.2 k b hkn hb
          refine z_aload_n dX7_goes_133 rfl rfl ?_
          refine z_gr7 (j := 23) dX7_goes_134 (by decide) fl_X7_58 rfl rfl rfl ?_
          refine z_iload dX7_goes_137 rfl rfl ?_
          refine z_iald dX7_goes_139 (by first | rfl | exact knd_h (by omega) | exact knd_s (by omega)) rfl (by omega) (by decide) rfl ?_
          refine z_iload_n dX7_goes_140 rfl rfl ?_
          refine z_icmp_le (tgt := 165) dX7_goes_141 (by decide) rfl (fun h2 => ?_) (fun h2 => ?_)
          · rw [hen] at h2
            have h2n := le_nn h2 (by omega) (by omega)
            refine skp ?_
            have : e k = true := by rw [← he k, isEnd_some hb]; simp; omega
            rw [nxTo, hb]; simp [this]
          · rw [hen] at h2
            have h2n := nle_nn h2 (by omega) (by omega)
            have hek : e k = false := by rw [← he k, isEnd_some hb]; simp; omega
            have hx1 : ∀ x, nxTo P s1 e k = some x → x ≤ 100000 := fun x hx => by
              obtain ⟨⟨w2, b2, q1, q2, q3, q4⟩, -⟩ := nx_some hx
              have := hB w2 b2 q2
              have := (hH w2 (by omega)).2
              omega
            have hnx : nxTo P s1 e (k + 1) = match nxTo P s1 e k with | none => some (b + pH P k) | some x => if b + pH P k < x then some (b + pH P k) else some x := by
              rw [nxTo, hb]; simp only [hek]; rfl
            have tk : nxI 1000000 (nxTo P s1 e (k + 1)) = nI (b + pH P k) → Zz (zx l E mX7_goes 1 Q) 0 0 156 [some (.ref 99), some (.int (nI r)), some (.int (nI h)), some (.int (nI h)), some (.int (nxI 1000000 (nxTo P s1 e k))), some (.int (nI k))] [] N := fun q => by
              rw [q] at ih1
              refine z_aload_n dX7_goes_156 rfl rfl ?_
              refine z_gr7 (j := 23) dX7_goes_157 (by decide) fl_X7_58 rfl rfl rfl ?_
              refine z_iload dX7_goes_160 rfl rfl ?_
              refine z_iald dX7_goes_162 (by first | rfl | exact knd_h (by omega) | exact knd_s (by omega)) rfl (by omega) (by decide) rfl ?_
              refine z_tp (b := (nI (b + pH P k))) hen ?_
              refine z_ist4 dX7_goes_163 (Nat.le_of_ble_eq_true rfl) rfl ?_
              first | refine z_iu5 dX7_goes_165 (Nat.le_of_ble_eq_true rfl) rfl ?_ | refine z_inc5 dX7_goes_165 (Nat.le_of_ble_eq_true rfl) rfl rfl ?_
              refine z_goto (tgt := 114) dX7_goes_168 (by decide) ?_
              exact ih1
            refine z_aload_n dX7_goes_144 rfl rfl ?_
            refine z_gr7 (j := 23) dX7_goes_145 (by decide) fl_X7_58 rfl rfl rfl ?_
            refine z_iload dX7_goes_148 rfl rfl ?_
            refine z_iald dX7_goes_150 (by first | rfl | exact knd_h (by omega) | exact knd_s (by omega)) rfl (by omega) (by decide) rfl ?_
            refine z_iload dX7_goes_151 rfl rfl ?_
            refine z_icmp_ge (tgt := 165) dX7_goes_153 (by decide) rfl (fun h3 => ?_) (fun h3 => ?_)
            · rw [hen] at h3
              refine skp ?_
              cases hx : nxTo P s1 e k with
              | none => rw [hx] at h3; exact absurd (le_nn (a := 1000000) h3 (by decide) (by omega)) (by omega)
              | some x =>
                rw [hx] at h3
                have := hx1 x hx
                have := le_nn (a := x) h3 (by omega) (by omega)
                rw [hnx, hx]; simp only; rw [if_neg (by omega)]
            · rw [hen] at h3
              refine tk ?_
              cases hx : nxTo P s1 e k with
              | none => rw [hnx, hx]; rfl
              | some x =>
                rw [hx] at h3
                have := hx1 x hx
                have := nle_nn (a := x) h3 (by omega) (by omega)
                rw [hnx, hx]; simp only; rw [if_pos (by omega)]; rfl
  have loop : ∀ (f t : Nat), t + f = pN P + 1 → ∀ (N : Mem) (s : Sch) (h : Nat) (u v : Option Value), Eqx Sm M N → MR P N s → Good P s h → cntU (isEnd P s h) (pN P) < f → h ≤ 40 * t → goS P od (pN P + 1) s0 0 = goS P od f s h → Zz (zx l E mX7_goes 1 Q) 0 0 27 [some (.ref 99), some (.int (nI r)), some (.int (nI h)), some (.int (nI h)), u, v] [] N := by
    intro f
    induction f with
    | zero => intro t ht N s h u v hE hR hg hcn; exact absurd hcn (Nat.not_lt_zero _)
    | succ f ih =>
      intro t ht N s h u v hE hR hg hcn hh hgo
      refine z_iload_n dX7_goes_27 rfl rfl ?_
      refine z_ldc dX7_goes_28 co_X7_178 rfl ?_
      refine z_icmp_ge (tgt := 191) dX7_goes_30 (by decide) rfl (fun hc => ?_) (fun hc => ?_)
      · exact absurd (le_nn (a := 1000000) hc (by decide) (by omega)) (by omega)
      · refine z_iconst (v := 0) dX7_goes_33 (by decide) rfl ?_
        refine z_ist4 dX7_goes_34 (Nat.le_of_ble_eq_true rfl) rfl ?_
        refine bgl s h (by omega) hg ?_ (pN P) 0 (by omega) N _ hE hR
        intro N2 u2 hE2 hR2
        rw [goS_s (f := f)] at hgo
        have hB : ∀ w b, bgTo P od h (isEnd P s h) s (pN P) w = some b → b ≤ h := fun w b hb => by
          rcases bgTo_out hodn (Nat.le_refl _) hb with q | ⟨-, q, -⟩
          · exact hg.1 w b q
          · omega
        have e1 := isEnd_bg (P := P) (od := od) (h := h) (s := s) hodn (fun w hw => (hH w hw).1) (Nat.le_refl (pN P))
        refine z_ldc dX7_goes_107 co_X7_178 rfl ?_
        refine z_ist4 dX7_goes_109 (Nat.le_of_ble_eq_true rfl) rfl ?_
        refine z_iconst (v := 0) dX7_goes_111 (by decide) rfl ?_
        refine z_ist5 dX7_goes_112 (Nat.le_of_ble_eq_true rfl) rfl ?_
        refine nxl N2 _ (isEnd P s h) h (by omega) hE2 hR2 hB e1 ?_ (pN P) 0 (by omega)
        intro u3
        cases hnx : nxTo P (bgTo P od h (isEnd P s h) s (pN P)) (isEnd P s h) (pN P) with
        | none =>
          rw [hnx] at hgo
          refine z_iload dX7_goes_171 rfl rfl ?_
          refine z_ldc dX7_goes_173 co_X7_178 rfl ?_
          refine z_icmp_ge (tgt := 183) dX7_goes_175 (by decide) rfl (fun h1 => ?_) (fun h1 => ?_)
          · refine z_iload_n dX7_goes_183 rfl rfl ?_
            refine z_ist3 dX7_goes_184 (Nat.le_of_ble_eq_true rfl) rfl ?_
            refine z_iload dX7_goes_185 rfl rfl ?_
            refine z_ist2 dX7_goes_187 (Nat.le_of_ble_eq_true rfl) rfl ?_
            refine z_goto (tgt := 27) dX7_goes_188 (by decide) ?_
            refine z_iload_n dX7_goes_27 rfl rfl ?_
            refine z_ldc dX7_goes_28 co_X7_178 rfl ?_
            refine z_icmp_ge (tgt := 191) dX7_goes_30 (by decide) rfl (fun h2 => ?_) (fun h2 => ?_)
            · refine z_iconst (v := 0) dX7_goes_191 (by decide) rfl ?_
              refine z_ist4 dX7_goes_192 (Nat.le_of_ble_eq_true rfl) rfl ?_
              exact fin N2 _ h _ hE2 hR2 (fun w b hb => by have := hB w b hb; omega) hgo (pN P) 0 (by omega) rfl
            · exact absurd (nI_le (Nat.le_refl _) (by decide)) h2
          · exact absurd (nI_le (a := 1000000) (Nat.le_refl _) (by decide)) h1
        | some h1 =>
          rw [hnx] at hgo
          obtain ⟨t1, t2, t3, t4, t5, t6⟩ := turn hodn hH hg hnx
          refine z_iload dX7_goes_171 rfl rfl ?_
          refine z_ldc dX7_goes_173 co_X7_178 rfl ?_
          refine z_icmp_ge (tgt := 183) dX7_goes_175 (by decide) rfl (fun h2 => ?_) (fun h2 => ?_)
          · exact absurd (le_nn (a := 1000000) h2 (by decide) (by omega)) (by omega)
          · refine z_iload dX7_goes_178 rfl rfl ?_
            refine z_goto (tgt := 184) dX7_goes_180 (by decide) ?_
            refine z_ist3 dX7_goes_184 (Nat.le_of_ble_eq_true rfl) rfl ?_
            refine z_iload dX7_goes_185 rfl rfl ?_
            refine z_ist2 dX7_goes_187 (Nat.le_of_ble_eq_true rfl) rfl ?_
            refine z_goto (tgt := 27) dX7_goes_188 (by decide) ?_
            exact ih (t + 1) (by omega) N2 _ h1 _ _ hE2 hR2 t3 (by omega) (by omega) hgo
  have ini : ∀ (k j : Nat), j + k = pN P → Zz (zx l E mX7_goes 1 Q) 0 0 2 [some (.ref 99), some (.int (nI r)), some (.int (nI j)), none, none, none] [] (fil M 111 0 j (fun _ => -1)) := by
    intro k
    have ef : ∀ j, Eqx Sm M (fil M 111 0 j (fun _ => -1)) := fun j a b hs => by
      unfold fil
      rw [if_neg (fun q => hs (Or.inl q.1))]
    induction k with
    | zero =>
      intro j hj
      have ej : j = pN P := by omega
      subst ej
      have hWN := hW.keep (ef (pN P))
      refine z_iload_n dX7_goes_2 rfl rfl ?_
      refine z_aload_n dX7_goes_3 rfl rfl ?_
      refine z_gi7 (j := 14) dX7_goes_4 (by decide) fl_X7_144 rfl rfl rfl ?_
      refine z_icmp_ge (tgt := 23) dX7_goes_7 (by decide) rfl (fun hc => ?_) (fun hc => ?_)
      · refine z_iconst (v := 0) dX7_goes_23 (by decide) rfl ?_
        refine z_ist2 dX7_goes_24 (Nat.le_of_ble_eq_true rfl) rfl ?_
        refine z_iconst (v := 0) dX7_goes_25 (by decide) rfl ?_
        refine z_ist3 dX7_goes_26 (Nat.le_of_ble_eq_true rfl) rfl ?_
        refine loop (pN P + 1) 0 (by omega) _ s0 0 _ _ (ef _) ⟨fun w hw => ?_, fun w b hw hb => (nomatch hb)⟩ ⟨fun w b h => (nomatch h), fun _ _ => rfl⟩ (Nat.lt_succ_of_le cntU_le) (Nat.zero_le _) rfl
        rw [fil_i (by omega) (by omega)]; rfl
      · exact absurd (by rw [hWN.1]; exact nI_le (Nat.le_refl _) (by omega)) hc
    | succ k ih =>
      intro j hj
      have hWN := hW.keep (ef j)
      refine z_iload_n dX7_goes_2 rfl rfl ?_
      refine z_aload_n dX7_goes_3 rfl rfl ?_
      refine z_gi7 (j := 14) dX7_goes_4 (by decide) fl_X7_144 rfl rfl rfl ?_
      refine z_icmp_ge (tgt := 23) dX7_goes_7 (by decide) rfl (fun hc => ?_) (fun hc => ?_)
      · exact absurd hc (by rw [hWN.1]; exact nI_ge (by omega) (by omega))
      · refine z_aload_n dX7_goes_10 rfl rfl ?_
        refine z_gr7 (j := 22) dX7_goes_11 (by decide) fl_X7_55 rfl rfl rfl ?_
        refine z_iload_n dX7_goes_14 rfl rfl ?_
        refine z_iconst (v := (-1)) dX7_goes_15 (by decide) rfl ?_
        refine z_iast dX7_goes_16 (by first | rfl | exact knd_h (by omega) | exact knd_s (by omega)) rfl (by omega) (by decide) rfl ?_
        refine z_mem (N := fil M 111 0 (j + 1) (fun _ => -1)) (fil_s' rfl (by omega)) ?_
        first | refine z_iu2 dX7_goes_17 (Nat.le_of_ble_eq_true rfl) rfl ?_ | refine z_inc2 dX7_goes_17 (Nat.le_of_ble_eq_true rfl) rfl rfl ?_
        refine z_goto (tgt := 2) dX7_goes_20 (by decide) ?_
        exact ih (j + 1) (by omega)
  refine z_iconst (v := 0) dX7_goes_0 (by decide) rfl ?_
  refine z_ist2 dX7_goes_1 (Nat.le_of_ble_eq_true rfl) rfl ?_
  exact z_mem (N := fil M 111 0 0 (fun _ => -1)) fil_0.symm (ini (pN P) 0 (by omega))
