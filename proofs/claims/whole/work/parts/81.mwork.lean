/-! the reference's work -/
def addM (N : Mem) (n0 : Nat) : Mem := mu (mu (mu N 107 n0 (nI n0)) 99 14 (nI (n0 + 1))) 99 20 0
def SwW (n0 a b : Nat) : Prop := Sw5 n0 a b ∨ (a = 99 ∧ (b = 0 ∨ b = 2 ∨ b = 3))
def RwM (b : Nat → Nat) (t n0 : Nat) (x : Int32) (M : Mem) : Option Value ⊕ String → Mem → Prop := fun r N => (ixB x (t + 1) = false ∧ r = .inl (some (.int 0)) ∧ N = mu (mu M 99 0 0) 99 0 1) ∨ (ixB x (t + 1) = true ∧ n0 = 16 ∧ r = .inl (some (.int 0)) ∧ N = mu (mu M 99 0 0) 99 0 2) ∨ (ixB x (t + 1) = true ∧ n0 < 16 ∧ ∃ N2, Eqx (SwW n0) M N2 ∧ N2 99 0 = 0 ∧ N2 99 2 = 0 ∧ ((∃ k p, rdS b x.toNatClampNeg n0 = .inl (k, p) ∧ 0 < k ∧ k ≤ 3 ∧ r = .inl (some (.int (nI k - 10))) ∧ N = N2 ∧ N2 99 6 = nI p) ∨ (∃ D, rdS b x.toNatClampNeg n0 = .inr D ∧ r = .inl (some (.int (nI n0))) ∧ N = addM N2 n0 ∧ N2 99 6 = -1 ∧ DM n0 (fun _ => true) D N2)))
set_option maxHeartbeats 16000000 in
theorem c_X7_work {l : Launch} {E : EnT} (hst : l.stackTraces = false) (hV : hVw E) (M : Mem) (b : Nat → Nat) (t n0 : Nat) (x : Int32) (ht : M 99 2 = nI t) (h200 : t ≤ 200) (hb : ∀ i, i < t → M 100 i &&& 255 = nI (b i) ∧ b i < 256) (hn : M 99 14 = nI n0) (h16 : n0 ≤ 16) : Mm l E mX7_work 7 0 0 [.ref 99, .int x] M (RwM b t n0 x M) := by
  generalize hQ : RwM b t n0 x M = Q
  refine Mm_go hst (by decide) rfl (Nat.le_of_ble_eq_true rfl) [some (.ref 99), some (.int x), none] rfl ?_
  rcases ixB_cases x (n := t + 1) (by omega) with ⟨hx, h⟩ | ⟨j, hj, rfl, hx⟩
  · have bad : Zz (zx l E mX7_work 7 Q) 0 0 18 [some (.ref 99), some (.int x), none] [.ref 99] (mu M 99 0 0) := by
      refine z_iconst (v := 1) dX7_work_18 (by decide) rfl ?_
      refine z_goto (tgt := 23) dX7_work_19 (by decide) ?_
      refine z_iconst (v := 1) dX7_work_23 (by decide) rfl ?_
      refine z_cv2 (ci := 7) (nf := 32) (y := mX7_bad) dX7_work_24 ml_X7_154 iv_X7_bad (Nat.le_of_ble_eq_true rfl) rfl (by decide) rfl (Nat.le_of_ble_eq_true rfl) (Nat.le_of_ble_eq_true rfl) (Nat.le_of_ble_eq_true rfl) (c_X7_bad1 hst 1 _) rfl ?_
      refine z_if_ne (tgt := 52) dX7_work_27 (by decide) rfl (fun g => ?_) (fun g => ?_)
      · rw [← hQ]
        refine z_iconst (v := 0) dX7_work_52 (by decide) rfl ?_
        exact z_ireturn dX7_work_53 rfl (Or.inl ⟨hx, rfl, rfl⟩) (Nat.le_of_ble_eq_true rfl) (Nat.le_of_ble_eq_true rfl)
      · exact absurd g (by decide)
    refine z_aload_n dX7_work_0 rfl rfl ?_
    refine z_iconst (v := 0) dX7_work_1 (by decide) rfl ?_
    refine z_pi7 (j := 0) dX7_work_2 (by decide) fl_X7_79 rfl rfl rfl rfl rfl ?_
    refine z_aload_n dX7_work_5 rfl rfl ?_
    refine z_iload_n dX7_work_6 rfl rfl ?_
    refine z_if_lt (tgt := 18) dX7_work_7 (by decide) rfl (fun h1 => ?_) (fun h1 => ?_)
    · exact bad
    · refine z_iload_n dX7_work_10 rfl rfl ?_
      refine z_aload_n dX7_work_11 rfl rfl ?_
      refine z_gi7 (j := 2) dX7_work_12 (by decide) fl_X7_82 rfl rfl rfl ?_
      refine z_icmp_le (tgt := 22) dX7_work_15 (by decide) rfl (fun h2 => ?_) (fun h2 => ?_)
      · have h2 : x ≤ M 99 2 := h2
        rw [ht] at h2
        exact absurd (h.resolve_left h1) (fun q => by rw [Int32.le_iff_toInt_le] at h2 q; rw [nI_toInt (by omega)] at q; rw [nI_toInt (by omega)] at h2; omega)
      · exact bad
  · refine z_aload_n dX7_work_0 rfl rfl ?_
    refine z_iconst (v := 0) dX7_work_1 (by decide) rfl ?_
    refine z_pi7 (j := 0) dX7_work_2 (by decide) fl_X7_79 rfl rfl rfl rfl rfl ?_
    refine z_aload_n dX7_work_5 rfl rfl ?_
    refine z_iload_n dX7_work_6 rfl rfl ?_
    refine z_if_lt (tgt := 18) dX7_work_7 (by decide) rfl (fun h1 => ?_) (fun h1 => ?_)
    · exact absurd h1 (nI_pos (by omega))
    · refine z_iload_n dX7_work_10 rfl rfl ?_
      refine z_aload_n dX7_work_11 rfl rfl ?_
      refine z_gi7 (j := 2) dX7_work_12 (by decide) fl_X7_82 rfl rfl rfl ?_
      refine z_icmp_le (tgt := 22) dX7_work_15 (by decide) rfl (fun h2 => ?_) (fun h2 => ?_)
      · refine z_iconst (v := 0) dX7_work_22 (by decide) rfl ?_
        refine z_iconst (v := 1) dX7_work_23 (by decide) rfl ?_
        refine z_cv2 (ci := 7) (nf := 32) (y := mX7_bad) dX7_work_24 ml_X7_154 iv_X7_bad (Nat.le_of_ble_eq_true rfl) rfl (by decide) rfl (Nat.le_of_ble_eq_true rfl) (Nat.le_of_ble_eq_true rfl) (Nat.le_of_ble_eq_true rfl) (c_X7_bad0 hst 1 _) rfl ?_
        refine z_if_ne (tgt := 52) dX7_work_27 (by decide) rfl (fun g => ?_) (fun g => ?_)
        · exact absurd rfl g
        · refine z_aload_n dX7_work_30 rfl rfl ?_
          refine z_aload_n dX7_work_31 rfl rfl ?_
          refine z_gi7 (j := 14) dX7_work_32 (by decide) fl_X7_144 rfl rfl rfl ?_
          refine z_bipush (v := 16) dX7_work_35 (by decide) rfl ?_
          refine z_icmp_ne (tgt := 44) dX7_work_37 (by decide) rfl (fun h3 => ?_) (fun h3 => ?_)
          · have h3 : M 99 14 ≠ 16 := h3
            have hlt : n0 < 16 := Nat.lt_of_le_of_ne h16 (fun q => h3 (by rw [hn, q]; rfl))
            refine z_iconst (v := 0) dX7_work_44 (by decide) rfl ?_
            refine z_iconst (v := 2) dX7_work_45 (by decide) rfl ?_
            refine z_cv2 (ci := 7) (nf := 32) (y := mX7_bad) dX7_work_46 ml_X7_154 iv_X7_bad (Nat.le_of_ble_eq_true rfl) rfl (by decide) rfl (Nat.le_of_ble_eq_true rfl) (Nat.le_of_ble_eq_true rfl) (Nat.le_of_ble_eq_true rfl) (c_X7_bad0 hst 2 _) rfl ?_
            refine z_if_eq (tgt := 54) dX7_work_49 (by decide) rfl (fun g1 => ?_) (fun g1 => ?_)
            · refine z_aload_n dX7_work_54 rfl rfl ?_
              refine z_iload_n dX7_work_55 rfl rfl ?_
              refine z_pi7 (j := 3) dX7_work_56 (by decide) fl_X7_85 rfl rfl rfl rfl rfl ?_
              refine z_aload_n dX7_work_59 rfl rfl ?_
              refine z_iconst (v := 0) dX7_work_60 (by decide) rfl ?_
              refine z_pi7 (j := 2) dX7_work_61 (by decide) fl_X7_82 rfl rfl rfl rfl rfl ?_
              refine z_aload_n dX7_work_64 rfl rfl ?_
              refine z_iconst (v := 0) dX7_work_65 (by decide) rfl ?_
              refine z_pi7 (j := 4) dX7_work_66 (by decide) fl_X7_88 rfl rfl rfl rfl rfl ?_
              refine z_aload_n dX7_work_69 rfl rfl ?_
              refine z_iconst (v := 0) dX7_work_70 (by decide) rfl ?_
              refine z_pi7 (j := 5) dX7_work_71 (by decide) fl_X7_95 rfl rfl rfl rfl rfl ?_
              refine z_aload_n dX7_work_74 rfl rfl ?_
              refine z_iconst (v := (-1)) dX7_work_75 (by decide) rfl ?_
              refine z_pi7 (j := 6) dX7_work_76 (by decide) fl_X7_13 rfl rfl rfl rfl rfl ?_
              refine z_iconst (v := 0) dX7_work_79 (by decide) rfl ?_
              refine z_ist2 dX7_work_80 (Nat.le_of_ble_eq_true rfl) rfl ?_
              have hE0 : Eqx (SwW n0) M (mu (mu (mu (mu (mu (mu M 99 0 0) 99 3 (nI j)) 99 2 0) 99 4 0) 99 5 0) 99 6 (-1)) := ((((((Eqx.rf.mu (by unfold SwW; omega)).mu (by unfold SwW; omega)).mu (by unfold SwW; omega)).mu (by unfold SwW Sw5; omega)).mu (by unfold SwW Sw5; omega)).mu (by unfold SwW Sw5; omega))
              have q0 : mu (mu (mu (mu (mu (mu M 99 0 0) 99 3 (nI j)) 99 2 0) 99 4 0) 99 5 0) 99 6 (-1) 99 0 = 0 := rfl
              have q2 : mu (mu (mu (mu (mu (mu M 99 0 0) 99 3 (nI j)) 99 2 0) 99 4 0) 99 5 0) 99 6 (-1) 99 2 = 0 := rfl
              have q3 : mu (mu (mu (mu (mu (mu M 99 0 0) 99 3 (nI j)) 99 2 0) 99 4 0) 99 5 0) 99 6 (-1) 99 3 = nI j := rfl
              have q4 : mu (mu (mu (mu (mu (mu M 99 0 0) 99 3 (nI j)) 99 2 0) 99 4 0) 99 5 0) 99 6 (-1) 99 4 = 0 := rfl
              have q5 : mu (mu (mu (mu (mu (mu M 99 0 0) 99 3 (nI j)) 99 2 0) 99 4 0) 99 5 0) 99 6 (-1) 99 5 = 0 := rfl
              have q6 : mu (mu (mu (mu (mu (mu M 99 0 0) 99 3 (nI j)) 99 2 0) 99 4 0) 99 5 0) 99 6 (-1) 99 6 = -1 := rfl
              generalize mu (mu (mu (mu (mu (mu M 99 0 0) 99 3 (nI j)) 99 2 0) 99 4 0) 99 5 0) 99 6 (-1) = N0 at hE0 q0 q2 q3 q4 q5 q6 ⊢
              have hT0 : TM b j N0 := ⟨q3, by omega, fun i hi => by rw [hE0 100 i (by unfold SwW Sw5; omega)]; exact hb i (by omega)⟩
              have fin1 : ∀ (N : Mem) (k p : Nat) (u : Option Value), Eqx (Sw5 n0) N0 N → rdS b j n0 = .inl (k, p) → 0 < k → k ≤ 3 → N 99 5 = nI k → N 99 6 = nI p → Zz (zx l E mX7_work 7 Q) 0 0 190 [some (.ref 99), some (.int (nI j)), u] [] N := by
                intro N k p u hE e hk hk3 h5 h6
                refine z_aload_n dX7_work_190 rfl rfl ?_
                refine z_gi7 (j := 5) dX7_work_191 (by decide) fl_X7_95 rfl rfl rfl ?_
                refine z_if_le (tgt := 205) dX7_work_194 (by decide) rfl (fun g2 => ?_) (fun g2 => ?_)
                · rw [h5] at g2
                  exact absurd (le_nn (b := 0) g2 (by omega) (by decide)) (by omega)
                · refine z_aload_n dX7_work_197 rfl rfl ?_
                  refine z_gi7 (j := 5) dX7_work_198 (by decide) fl_X7_95 rfl rfl rfl ?_
                  refine z_tp (b := (nI k)) h5 ?_
                  rw [← hQ]
                  refine z_bipush (v := 10) dX7_work_201 (by decide) rfl ?_
                  refine z_isub dX7_work_203 rfl ?_
                  exact z_ireturn dX7_work_204 rfl (Or.inr (Or.inr ⟨hx, hlt, N, hE0.tr (hE.mono (fun _ _ q => Or.inl q)), by rw [hE 99 0 (by unfold Sw5; omega)]; exact q0, by rw [hE 99 2 (by unfold Sw5; omega)]; exact q2, Or.inl ⟨k, p, by rw [nI_clamp (by omega)]; exact e, hk, hk3, rfl, rfl, h6⟩⟩)) (Nat.le_of_ble_eq_true rfl) (Nat.le_of_ble_eq_true rfl)
              have fin172 : ∀ (N : Mem) (k p : Nat) (u : Option Value) (v : Int32), Eqx (Sw5 n0) N0 N → rdS b j n0 = .inl (k, p) → 0 < k → k ≤ 3 → N 99 5 = nI k → N 99 6 = nI p → N 108 0 = v → Zz (zx l E mX7_work 7 Q) 0 0 172 [some (.ref 99), some (.int (nI j)), u] [] N := by
                intro N k p u v hE e hk hk3 h5 h6 hv
                refine z_aload_n dX7_work_172 rfl rfl ?_
                refine z_gr7 (j := 17) dX7_work_173 (by decide) fl_X7_45 rfl rfl rfl ?_
                refine z_iconst (v := 0) dX7_work_176 (by decide) rfl ?_
                refine z_zald dX7_work_177 rfl (show (0 : Int32) = nI 0 from rfl) (by omega) (by decide) rfl ?_
                refine z_if_ne (tgt := 190) dX7_work_178 (by decide) rfl (fun g2 => ?_) (fun g2 => ?_)
                · exact fin1 N k p u hE e hk hk3 h5 h6
                · refine z_aload_n dX7_work_181 rfl rfl ?_
                  refine z_iconst (v := 3) dX7_work_182 (by decide) rfl ?_
                  refine z_aload_n dX7_work_183 rfl rfl ?_
                  refine z_gi7 (j := 3) dX7_work_184 (by decide) fl_X7_85 rfl rfl rfl ?_
                  refine z_cn2 (ci := 7) (nf := 32) (y := mX7_wrong) dX7_work_187 ml_X7_136 iv_X7_wrong (Nat.le_of_ble_eq_true rfl) rfl (by decide) rfl (Nat.le_of_ble_eq_true rfl) (Nat.le_of_ble_eq_true rfl) (Nat.le_of_ble_eq_true rfl) (c_X7_wrong1 hst N 3 _ k h5 hk hk3) rfl ?_
                  exact fin1 N k p u hE e hk hk3 h5 h6
              have fin0 : ∀ (N : Mem) (rd : Nat → Bool) (D : Dr) (u : Option Value), Eqx (Sw5 n0) N0 N → rdL b j n0 (j + 1) (run (isBl b) j 0) (fun _ => false) D0 = .inr (rd, D) → N 99 5 = 0 → N 99 6 = -1 → N 108 0 = bI (rd 0) → DM n0 rd D N → Zz (zx l E mX7_work 7 Q) 0 0 172 [some (.ref 99), some (.int (nI j)), u] [] N := by
                intro N rd D u hE e h5 h6 h8 hD
                have n14 : N 99 14 = nI n0 := by rw [hE 99 14 (by unfold Sw5; omega), hE0 99 14 (by unfold SwW Sw5; omega)]; exact hn
                refine z_aload_n dX7_work_172 rfl rfl ?_
                refine z_gr7 (j := 17) dX7_work_173 (by decide) fl_X7_45 rfl rfl rfl ?_
                refine z_iconst (v := 0) dX7_work_176 (by decide) rfl ?_
                refine z_zald dX7_work_177 rfl (show (0 : Int32) = nI 0 from rfl) (by omega) (by decide) rfl ?_
                refine z_tp (b := (bI (rd 0))) h8 ?_
                cases hr : rd 0 with
                | true =>
                  refine z_if_ne (tgt := 190) dX7_work_178 (by decide) rfl (fun g2 => ?_) (fun g2 => ?_)
                  · refine z_aload_n dX7_work_190 rfl rfl ?_
                    refine z_gi7 (j := 5) dX7_work_191 (by decide) fl_X7_95 rfl rfl rfl ?_
                    refine z_if_le (tgt := 205) dX7_work_194 (by decide) rfl (fun g3 => ?_) (fun g3 => ?_)
                    · refine z_aload_n dX7_work_205 rfl rfl ?_
                      refine z_gr7 (j := 13) dX7_work_206 (by decide) fl_X7_36 rfl rfl rfl ?_
                      refine z_aload_n dX7_work_209 rfl rfl ?_
                      refine z_gi7 (j := 14) dX7_work_210 (by decide) fl_X7_144 rfl rfl rfl ?_
                      refine z_tp (b := (nI n0)) n14 ?_
                      refine z_aload_n dX7_work_213 rfl rfl ?_
                      refine z_gi7 (j := 14) dX7_work_214 (by decide) fl_X7_144 rfl rfl rfl ?_
                      refine z_tp (b := (nI n0)) n14 ?_
                      have hN2 : Eqx (SwW n0) M N := hE0.tr (hE.mono (fun _ _ q => Or.inl q))
                      refine z_iast dX7_work_217 (by first | rfl | exact knd_h (by omega) | exact knd_s (by omega)) rfl (by omega) (by decide) rfl ?_
                      refine z_aload_n dX7_work_218 rfl rfl ?_
                      refine z_dup dX7_work_219 rfl rfl ?_
                      refine z_gi7 (j := 14) dX7_work_220 (by decide) fl_X7_144 rfl rfl rfl ?_
                      refine z_iconst (v := 1) dX7_work_223 (by decide) rfl ?_
                      refine z_iadd dX7_work_224 rfl ?_
                      refine z_pi7 (j := 14) dX7_work_225 (by decide) fl_X7_144 rfl rfl rfl rfl rfl ?_
                      refine z_aload_n dX7_work_228 rfl rfl ?_
                      refine z_iconst (v := 0) dX7_work_229 (by decide) rfl ?_
                      refine z_pi7 (j := 20) dX7_work_230 (by decide) fl_X7_161 rfl rfl rfl rfl rfl ?_
                      have e9 : mu (mu (mu N 107 n0 (nI n0)) 99 14 (mu N 107 n0 (nI n0) 99 14 + 1)) 99 20 0 = addM N n0 := by
                        unfold addM
                        rw [show mu N 107 n0 (nI n0) 99 14 = nI n0 from n14, nI_1]
                      rw [e9]
                      have e14 : addM N n0 99 14 = nI (n0 + 1) := rfl
                      refine z_aload_n dX7_work_233 rfl rfl ?_
                      refine z_gi7 (j := 14) dX7_work_234 (by decide) fl_X7_144 rfl rfl rfl ?_
                      refine z_tp (b := (nI (n0 + 1))) e14 ?_
                      refine z_iconst (v := 1) dX7_work_237 (by decide) rfl ?_
                      refine z_isub dX7_work_238 rfl ?_
                      refine z_tp (b := (nI n0)) (by rw [← nI_1]; exact Int32.add_sub_cancel _ _) ?_
                      rw [← hQ]
                      exact z_ireturn dX7_work_239 rfl (Or.inr (Or.inr ⟨hx, hlt, N, hN2, by rw [hE 99 0 (by unfold Sw5; omega)]; exact q0, by rw [hE 99 2 (by unfold Sw5; omega)]; exact q2, Or.inr ⟨D, by rw [nI_clamp (by omega)]; unfold rdS; rw [e]; simp only; rw [if_pos hr], rfl, rfl, h6, fun _ => hD.1 hr, hD.2⟩⟩)) (Nat.le_of_ble_eq_true rfl) (Nat.le_of_ble_eq_true rfl)
                    · exact absurd (by rw [h5]; decide) g3
                  · exact absurd g2 (by decide)
                | false =>
                  refine z_if_ne (tgt := 190) dX7_work_178 (by decide) rfl (fun g2 => ?_) (fun g2 => ?_)
                  · exact absurd rfl g2
                  · have n3 : N 99 3 = nI j := by rw [hE 99 3 (by unfold Sw5; omega)]; exact q3
                    refine z_aload_n dX7_work_181 rfl rfl ?_
                    refine z_iconst (v := 3) dX7_work_182 (by decide) rfl ?_
                    refine z_aload_n dX7_work_183 rfl rfl ?_
                    refine z_gi7 (j := 3) dX7_work_184 (by decide) fl_X7_85 rfl rfl rfl ?_
                    refine z_tp (b := (nI j)) n3 ?_
                    refine z_cn2 (ci := 7) (nf := 32) (y := mX7_wrong) dX7_work_187 ml_X7_136 iv_X7_wrong (Nat.le_of_ble_eq_true rfl) rfl (by decide) rfl (Nat.le_of_ble_eq_true rfl) (Nat.le_of_ble_eq_true rfl) (Nat.le_of_ble_eq_true rfl) (c_X7_wrong0 hst N 3 (nI j) h5) rfl ?_
                    exact fin1 _ 3 j _ ((hE.mu (by unfold Sw5; omega)).mu (by unfold Sw5; omega)) (by unfold rdS; rw [e]; simp only; rw [if_neg (by rw [hr]; decide)]) (by decide) (by decide) rfl rfl
              have loop : ∀ (f a : Nat) (N : Mem) (rd : Nat → Bool) (D : Dr) (u : Option Value), j - a < f → a ≤ j → run (isBl b) j a = a → Eqx (Sw5 n0) N0 N → N 99 4 = nI a → N 99 5 = 0 → N 99 6 = -1 → (∀ i, i < 5 → N 108 i = bI (rd i)) → DM n0 rd D N → rdL b j n0 f a rd D = rdL b j n0 (j + 1) (run (isBl b) j 0) (fun _ => false) D0 → Zz (zx l E mX7_work 7 Q) 0 0 143 [some (.ref 99), some (.int (nI j)), u] [] N := by
                intro f
                induction f with
                | zero => intro a N rd D u hf; exact absurd hf (Nat.not_lt_zero _)
                | succ f ih =>
                  intro a N rd D u hf haj hbl hE h4 h5 h6 h8 hD hq
                  rw [rdL] at hq
                  have hTN := hT0.keep hE
                  have n14 : N 99 14 = nI n0 := by rw [hE 99 14 (by unfold Sw5; omega), hE0 99 14 (by unfold SwW Sw5; omega)]; exact hn
                  refine z_aload_n dX7_work_143 rfl rfl ?_
                  refine z_gi7 (j := 5) dX7_work_144 (by decide) fl_X7_95 rfl rfl rfl ?_
                  refine z_if_ne (tgt := 172) dX7_work_147 (by decide) rfl (fun g2 => ?_) (fun g2 => ?_)
                  · exact absurd h5 g2
                  · refine z_aload_n dX7_work_150 rfl rfl ?_
                    refine z_gi7 (j := 4) dX7_work_151 (by decide) fl_X7_88 rfl rfl rfl ?_
                    refine z_aload_n dX7_work_154 rfl rfl ?_
                    refine z_gi7 (j := 3) dX7_work_155 (by decide) fl_X7_85 rfl rfl rfl ?_
                    refine z_icmp_ge (tgt := 172) dX7_work_158 (by decide) rfl (fun g3 => ?_) (fun g3 => ?_)
                    · rw [hTN.1, h4] at g3
                      have := le_nn g3 (by omega) (by omega)
                      rw [if_neg (by omega)] at hq
                      exact fin0 N rd D _ hE hq.symm h5 h6 (h8 0 (by decide)) hD
                    · rw [hTN.1, h4] at g3
                      have hlt2 := nle_nn g3 (by omega) (by omega)
                      rw [if_pos hlt2] at hq
                      refine z_aload_n dX7_work_161 rfl rfl ?_
                      refine z_cp0 (ci := 7) (nf := 32) (y := mX7_clause) dX7_work_162 ml_X7_158 iv_X7_clause (Nat.le_of_ble_eq_true rfl) rfl (by decide) rfl (Nat.le_of_ble_eq_true rfl) (Nat.le_of_ble_eq_true rfl) (Nat.le_of_ble_eq_true rfl) (c_X7_clause hst hV N b j a n0 rd D hTN h4 haj hbl h5 n14 hlt h8 hD) rfl ?_
                      intro N2 hr
                      rcases hr with ⟨k, p, e, hE2, F1, F2, a2, F3, F4⟩ | ⟨e2, rd2, D2, e, hE2, k4, k5, k6, k8, kD⟩
                      · rw [e] at hq
                        have hk := cl_k e
                        refine z_aload_n dX7_work_165 rfl rfl ?_
                        refine z_cn0 (ci := 7) (nf := 32) (y := mX7_blanks) dX7_work_166 ml_X7_98 iv_X7_blanks (Nat.le_of_ble_eq_true rfl) rfl (by decide) rfl (Nat.le_of_ble_eq_true rfl) (Nat.le_of_ble_eq_true rfl) (Nat.le_of_ble_eq_true rfl) (c_X7_blanks hst N2 b j a2 (hTN.keep hE2) F3 F4) rfl ?_
                        have f1 := fin172 (mu N2 99 4 (nI (run (isBl b) j a2))) k p u _ ((hE.tr hE2).mu (by unfold Sw5; omega)) (by unfold rdS; rw [← hq]) (by omega) (by omega) F1 F2 rfl
                        have n5 : mu N2 99 4 (nI (run (isBl b) j a2)) 99 5 = nI k := F1
                        generalize mu N2 99 4 (nI (run (isBl b) j a2)) = N3 at f1 n5 ⊢
                        refine z_goto (tgt := 143) dX7_work_169 (by decide) ?_
                        refine z_aload_n dX7_work_143 rfl rfl ?_
                        refine z_gi7 (j := 5) dX7_work_144 (by decide) fl_X7_95 rfl rfl rfl ?_
                        refine z_if_ne (tgt := 172) dX7_work_147 (by decide) rfl (fun g4 => ?_) (fun g4 => ?_)
                        · exact f1
                        · rw [n5] at g4
                          exact absurd ((nI_eq (b := 0) (by omega) (by decide)).mp g4) (by omega)
                      · rw [e] at hq
                        simp only at hq
                        have eo : a < e2 ∧ e2 ≤ j := by
                          unfold clS at e
                          cases hc : clsW b j a with
                          | none => rw [hc] at e; cases e
                          | some c =>
                            obtain ⟨z1, z2, z3, z4⟩ := cls_ok haj hc
                            rw [hc] at e
                            simp only at e
                            split at e
                            · cases e
                            · cases hr2 : restS b j n0 c (a + wl8 c) D with
                              | inl x => rw [hr2] at e; cases e
                              | inr x =>
                                obtain ⟨y1, y2⟩ := x
                                rw [hr2] at e
                                simp only at e
                                have := rest_ok z3 hr2
                                cases hs2 : sgnS b j y1 59 with
                                | inl x => rw [hs2] at e; cases e
                                | inr y3 =>
                                  rw [hs2] at e
                                  have := sgn_ok hs2
                                  cases e
                                  omega
                        have g6 := run_ge (p := isBl b) (n := j) e2
                        have g7 := run_le (p := isBl b) e2 eo.2
                        refine z_aload_n dX7_work_165 rfl rfl ?_
                        refine z_cn0 (ci := 7) (nf := 32) (y := mX7_blanks) dX7_work_166 ml_X7_98 iv_X7_blanks (Nat.le_of_ble_eq_true rfl) rfl (by decide) rfl (Nat.le_of_ble_eq_true rfl) (Nat.le_of_ble_eq_true rfl) (Nat.le_of_ble_eq_true rfl) (c_X7_blanks hst N2 b j e2 (hTN.keep hE2) k4 eo.2) rfl ?_
                        refine z_goto (tgt := 143) dX7_work_169 (by decide) ?_
                        exact ih (run (isBl b) j e2) _ rd2 D2 _ (by omega) g7 run_idem ((hE.tr hE2).mu (by unfold Sw5; omega)) rfl k5 (k6.trans h6) k8 (kD.keep (fun x h1 h2 => by rw [mu_o (by omega)])) hq
              have hasL : ∀ (m i : Nat), i + m = 5 → ∀ (N : Mem), Eqx (Sw5 n0) N0 N → N 99 4 = 0 → N 99 5 = 0 → N 99 6 = -1 → (∀ k, k < i → N 108 k = 0) → Zz (zx l E mX7_work 7 Q) 0 0 81 [some (.ref 99), some (.int (nI j)), some (.int (nI i))] [] N := by
                intro m
                induction m with
                | zero =>
                  intro i hi N hE h4 h5 h6 h8
                  have ei : i = 5 := by omega
                  subst ei
                  have n14 : N 99 14 = nI n0 := by rw [hE 99 14 (by unfold Sw5; omega), hE0 99 14 (by unfold SwW Sw5; omega)]; exact hn
                  refine z_iload_n dX7_work_81 rfl rfl ?_
                  refine z_iconst (v := 5) dX7_work_82 (by decide) rfl ?_
                  refine z_icmp_ge (tgt := 99) dX7_work_83 (by decide) rfl (fun g2 => ?_) (fun g2 => ?_)
                  · refine z_aload_n dX7_work_99 rfl rfl ?_
                    refine z_gr7 (j := 9) dX7_work_100 (by decide) fl_X7_24 rfl rfl rfl ?_
                    refine z_aload_n dX7_work_103 rfl rfl ?_
                    refine z_gi7 (j := 14) dX7_work_104 (by decide) fl_X7_144 rfl rfl rfl ?_
                    refine z_tp (b := (nI n0)) n14 ?_
                    refine z_iconst (v := 0) dX7_work_107 (by decide) rfl ?_
                    refine z_iast dX7_work_108 (by first | rfl | exact knd_h (by omega) | exact knd_s (by omega)) rfl (by omega) (by decide) rfl ?_
                    refine z_aload_n dX7_work_109 rfl rfl ?_
                    refine z_gr7 (j := 10) dX7_work_110 (by decide) fl_X7_27 rfl rfl rfl ?_
                    refine z_aload_n dX7_work_113 rfl rfl ?_
                    refine z_gi7 (j := 14) dX7_work_114 (by decide) fl_X7_144 rfl rfl rfl ?_
                    refine z_tp (b := (nI n0)) n14 ?_
                    refine z_iconst (v := 0) dX7_work_117 (by decide) rfl ?_
                    refine z_iast dX7_work_118 (by first | rfl | exact knd_h (by omega) | exact knd_s (by omega)) rfl (by omega) (by decide) rfl ?_
                    refine z_aload_n dX7_work_119 rfl rfl ?_
                    refine z_gr7 (j := 11) dX7_work_120 (by decide) fl_X7_30 rfl rfl rfl ?_
                    refine z_aload_n dX7_work_123 rfl rfl ?_
                    refine z_gi7 (j := 14) dX7_work_124 (by decide) fl_X7_144 rfl rfl rfl ?_
                    refine z_tp (b := (nI n0)) n14 ?_
                    refine z_iconst (v := (-1)) dX7_work_127 (by decide) rfl ?_
                    refine z_iast dX7_work_128 (by first | rfl | exact knd_h (by omega) | exact knd_s (by omega)) rfl (by omega) (by decide) rfl ?_
                    refine z_aload_n dX7_work_129 rfl rfl ?_
                    refine z_gr7 (j := 12) dX7_work_130 (by decide) fl_X7_33 rfl rfl rfl ?_
                    refine z_aload_n dX7_work_133 rfl rfl ?_
                    refine z_gi7 (j := 14) dX7_work_134 (by decide) fl_X7_144 rfl rfl rfl ?_
                    refine z_tp (b := (nI n0)) n14 ?_
                    refine z_iconst (v := 0) dX7_work_137 (by decide) rfl ?_
                    refine z_iast dX7_work_138 (by first | rfl | exact knd_h (by omega) | exact knd_s (by omega)) rfl (by omega) (by decide) rfl ?_
                    have hE2 : Eqx (Sw5 n0) N0 (mu (mu (mu (mu N 103 n0 0) 104 n0 0) 105 n0 (-1)) 106 n0 0) := (((hE.mu (by unfold Sw5; omega)).mu (by unfold Sw5; omega)).mu (by unfold Sw5; omega)).mu (by unfold Sw5; omega)
                    have hDM : DM n0 (fun _ => false) D0 (mu (mu (mu (mu N 103 n0 0) 104 n0 0) 105 n0 (-1)) 106 n0 0) := ⟨fun q => (nomatch q), by rw [mu_o (by decide), mu_o (by decide), mu_o (by decide), mu_at, if_pos rfl, if_pos rfl]; rfl, by rw [mu_o (by decide), mu_o (by decide), mu_at, if_pos rfl, if_pos rfl]; rfl, by rw [mu_o (by decide), mu_at, if_pos rfl, if_pos rfl]; rfl, fun i hi => by rw [mu_at, if_pos rfl, if_pos rfl]; exact b_0 i⟩
                    have m4 : mu (mu (mu (mu N 103 n0 0) 104 n0 0) 105 n0 (-1)) 106 n0 0 99 4 = 0 := h4
                    have m5 : mu (mu (mu (mu N 103 n0 0) 104 n0 0) 105 n0 (-1)) 106 n0 0 99 5 = 0 := h5
                    have m6 : mu (mu (mu (mu N 103 n0 0) 104 n0 0) 105 n0 (-1)) 106 n0 0 99 6 = -1 := h6
                    have m8 : ∀ k, k < 5 → mu (mu (mu (mu N 103 n0 0) 104 n0 0) 105 n0 (-1)) 106 n0 0 108 k = bI ((fun _ => false) k) := fun k hk => h8 k hk
                    generalize mu (mu (mu (mu N 103 n0 0) 104 n0 0) 105 n0 (-1)) 106 n0 0 = N3 at hE2 hDM m4 m5 m6 m8 ⊢
                    refine z_aload_n dX7_work_139 rfl rfl ?_
                    refine z_cn0 (ci := 7) (nf := 32) (y := mX7_blanks) dX7_work_140 ml_X7_98 iv_X7_blanks (Nat.le_of_ble_eq_true rfl) rfl (by decide) rfl (Nat.le_of_ble_eq_true rfl) (Nat.le_of_ble_eq_true rfl) (Nat.le_of_ble_eq_true rfl) (c_X7_blanks hst N3 b j 0 (hT0.keep hE2) m4 (Nat.zero_le j)) rfl ?_
                    exact loop (j + 1) (run (isBl b) j 0) _ (fun _ => false) D0 _ (by omega) (run_le 0 (Nat.zero_le j)) run_idem (hE2.mu (by unfold Sw5; omega)) rfl m5 m6 m8 (hDM.keep (fun x h1 h2 => by rw [mu_o (by omega)])) rfl
                  · exact absurd (nI_le (a := 5) (b := 5) (by decide) (by decide)) g2
                | succ m ih =>
                  intro i hi N hE h4 h5 h6 h8
                  refine z_iload_n dX7_work_81 rfl rfl ?_
                  refine z_iconst (v := 5) dX7_work_82 (by decide) rfl ?_
                  refine z_icmp_ge (tgt := 99) dX7_work_83 (by decide) rfl (fun g2 => ?_) (fun g2 => ?_)
                  · exact absurd (le_nn (a := 5) g2 (by decide) (by omega)) (by omega)
                  · refine z_aload_n dX7_work_86 rfl rfl ?_
                    refine z_gr7 (j := 17) dX7_work_87 (by decide) fl_X7_45 rfl rfl rfl ?_
                    refine z_iload_n dX7_work_90 rfl rfl ?_
                    refine z_iconst (v := 0) dX7_work_91 (by decide) rfl ?_
                    refine z_zast dX7_work_92 rfl rfl (by omega) (by decide) rfl ?_
                    first | refine z_iu2 dX7_work_93 (Nat.le_of_ble_eq_true rfl) rfl ?_ | refine z_inc2 dX7_work_93 (Nat.le_of_ble_eq_true rfl) rfl rfl ?_
                    refine z_goto (tgt := 81) dX7_work_96 (by decide) ?_
                    refine ih (i + 1) (by omega) _ (hE.mu (by unfold Sw5; omega)) h4 h5 h6 (fun k hk => ?_)
                    rw [mu_at, if_pos rfl]
                    by_cases e : k = i
                    · rw [if_pos e]; rfl
                    · rw [if_neg e]; exact h8 k (by omega)
              exact hasL 5 0 (by decide) N0 Eqx.rf q4 q5 q6 (fun k hk => absurd hk (Nat.not_lt_zero k))
            · exact absurd rfl g1
          · have h3 : M 99 14 = 16 := h3
            have h16e : n0 = 16 := (nI_eq (by omega) (by decide)).mp (hn.symm.trans h3)
            refine z_iconst (v := 1) dX7_work_40 (by decide) rfl ?_
            refine z_goto (tgt := 45) dX7_work_41 (by decide) ?_
            refine z_iconst (v := 2) dX7_work_45 (by decide) rfl ?_
            refine z_cv2 (ci := 7) (nf := 32) (y := mX7_bad) dX7_work_46 ml_X7_154 iv_X7_bad (Nat.le_of_ble_eq_true rfl) rfl (by decide) rfl (Nat.le_of_ble_eq_true rfl) (Nat.le_of_ble_eq_true rfl) (Nat.le_of_ble_eq_true rfl) (c_X7_bad1 hst 2 _) rfl ?_
            refine z_if_eq (tgt := 54) dX7_work_49 (by decide) rfl (fun g1 => ?_) (fun g1 => ?_)
            · exact absurd g1 (by decide)
            · rw [← hQ]
              refine z_iconst (v := 0) dX7_work_52 (by decide) rfl ?_
              exact z_ireturn dX7_work_53 rfl (Or.inr (Or.inl ⟨hx, h16e, rfl, rfl⟩)) (Nat.le_of_ble_eq_true rfl) (Nat.le_of_ble_eq_true rfl)
      · have h2 : ¬ nI j ≤ M 99 2 := h2
        rw [ht] at h2
        exact absurd (nI_le (show j ≤ t by omega) (by omega)) h2
