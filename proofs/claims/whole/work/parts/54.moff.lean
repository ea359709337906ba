/-! the reference's ON, OFF, last -/
set_option maxHeartbeats 4000000 in
theorem c_X7_on {l : Launch} {E : EnT} (hst : l.stackTraces = false) (M : Mem) (B : Bw) (od : Nat → Nat) (dr lim : Nat) (hd : M 99 20 = nI dr) (h20 : dr ≤ 20) (hW : ∀ r, r < dr + 2 → WM (rowP B r) M r) (hod : ∀ k, k < B.1 → M 107 k = nI (od k) ∧ od k < B.1) (hlm : M 99 16 = nI lim) (hl : lim ≤ 1000) : Mm l E mX7_on 3 0 0 [.ref 99] M (RP (some (.int (enI (drS dr (lateS lim (fun d => if d < dr then endS (rowP B (d + 2)) od else none) dr))))) (fun N => Eqx Se M N ∧ N 99 0 = 0)) := by
  refine Mm_go hst (by decide) rfl (Nat.le_of_ble_eq_true rfl) [some (.ref 99)] rfl ?_
  have e0 : Eqx Se M (mu M 99 0 0) := Eqx.rf.mu (by unfold Se; omega)
  refine z_aload_n dX7_on_0 rfl rfl ?_
  refine z_iconst (v := 0) dX7_on_1 (by decide) rfl ?_
  refine z_pi7 (j := 0) dX7_on_2 (by decide) fl_X7_79 rfl rfl rfl rfl rfl ?_
  refine z_aload_n dX7_on_5 rfl rfl ?_
  refine z_cq0 (ci := 7) (nf := 32) (y := mX7_onOf) dX7_on_6 ml_X7_196 iv_X7_onOf (Nat.le_of_ble_eq_true rfl) rfl (by decide) rfl (Nat.le_of_ble_eq_true rfl) (Nat.le_of_ble_eq_true rfl) (Nat.le_of_ble_eq_true rfl) (c_X7_onOf hst (mu M 99 0 0) B od dr lim hd h20 (fun r hr => (hW r hr).keepE e0) hod hlm hl) rfl ?_
  intro N ⟨hE, hB⟩
  exact z_ireturn dX7_on_9 rfl ⟨rfl, e0.tr (hE.mono (fun a b q => by unfold Se; omega)), by rw [hE 99 0 (by omega)]; rfl⟩ (Nat.le_of_ble_eq_true rfl) (Nat.le_of_ble_eq_true rfl)
/-- what the reference knows of its draws, for OFF -/
def OffM (M : Mem) (n dr lim : Nat) (sf : Nat → Sch) (bk : Nat → Option Nat) : Prop := M 99 20 = nI dr ∧ dr ≤ 20 ∧ lim ≤ 1000 ∧ M 99 14 = nI n ∧ n ≤ 16 ∧ (∀ d w, d < dr → w < n → M 115 (16 * d + w) = stI (sf d w)) ∧ (∀ d w b, sf d w = some b → b ≤ 100000) ∧ (∀ w, w < n → M 105 w = enI (bk w)) ∧ (∀ w x, bk w = some x → x ≤ 40) ∧ M 99 16 = nI lim
set_option maxHeartbeats 8000000 in
theorem c_X7_offOf {l : Launch} {E : EnT} (hst : l.stackTraces = false) (M : Mem) (n h dr lim : Nat) (sf : Nat → Sch) (bk : Nat → Option Nat) (hO : OffM M n dr lim sf bk) (hh : h ≤ 1000) : Mm l E mX7_offOf 1 0 0 [.ref 99, .int (nI h)] M (Rt (some (.int (enI (offS dr lim n sf bk h)))) M) := by
  obtain ⟨hd, h20, hl, hn, h16, hs, hsb, hbk, hb40, hlm⟩ := hO
  refine Mm_go hst (by decide) rfl (Nat.le_of_ble_eq_true rfl) [some (.ref 99), some (.int (nI h)), none, none, none, none, none] rfl ?_
  refine z_iconst (v := 0) dX7_offOf_0 (by decide) rfl ?_
  refine z_ist2 dX7_offOf_1 (Nat.le_of_ble_eq_true rfl) rfl ?_
  refine z_iconst (v := 0) dX7_offOf_2 (by decide) rfl ?_
  refine z_ist3 dX7_offOf_3 (Nat.le_of_ble_eq_true rfl) rfl ?_
  generalize hf : (fun d => backS (sf d) bk h n) = f
  rw [show offS dr lim n sf bk h = drS dr (lateS lim f dr) from by rw [← hf]; rfl]
  have hfb : ∀ d x, f d = some x → x ≤ 2000 := fun d x hx => by
    rw [← hf] at hx
    have := backS_bd hb40 hx
    omega
  generalize hQ : (Rt (some (.int (enI (drS dr (lateS lim f dr))))) M) = Q
  have inn : ∀ (d s : Nat), d < dr → lateS lim f d = some s → (∀ v u, f d = some v → Zz (zx l E mX7_offOf 1 Q) 0 0 85 [some (.ref 99), some (.int (nI h)), some (.int (nI s)), some (.int (nI d)), some (.int (nI v)), some (.int (nI n)), u] [] M) → ∀ (k j v : Nat), j + k = n → backS (sf d) bk h j = some v → ∀ (u : Option Value), Zz (zx l E mX7_offOf 1 Q) 0 0 18 [some (.ref 99), some (.int (nI h)), some (.int (nI s)), some (.int (nI d)), some (.int (nI v)), some (.int (nI j)), u] [] M := by
    intro d s hdd hs9 go k
    induction k with
    | zero =>
      intro j v hj hv u
      have ej : j = n := by omega
      subst ej
      refine z_iload dX7_offOf_18 rfl rfl ?_
      refine z_aload_n dX7_offOf_20 rfl rfl ?_
      refine z_gi7 (j := 14) dX7_offOf_21 (by decide) fl_X7_144 rfl rfl rfl ?_
      refine z_icmp_ge (tgt := 85) dX7_offOf_24 (by decide) rfl (fun hc => ?_) (fun hc => ?_)
      · exact go v u (by rw [← hf]; exact hv)
      · exact absurd (by rw [hn]; exact nI_le (Nat.le_refl _) (by omega)) hc
    | succ k ih =>
      intro j v hj hv u
      have hjn : j < n := by omega
      have hvb := backS_bd hb40 hv
      have es : M 115 (16 * d + j) = stI (sf d j) := hs d j hdd hjn
      have skp : ∀ u, backS (sf d) bk h (j + 1) = some v → Zz (zx l E mX7_offOf 1 Q) 0 0 79 [some (.ref 99), some (.int (nI h)), some (.int (nI s)), some (.int (nI d)), some (.int (nI v)), some (.int (nI j)), u] [] M := fun u q => by
        first | refine z_iu5 dX7_offOf_79 (Nat.le_of_ble_eq_true rfl) rfl ?_ | refine z_inc5 dX7_offOf_79 (Nat.le_of_ble_eq_true rfl) rfl rfl ?_
        refine z_goto (tgt := 18) dX7_offOf_82 (by decide) ?_
        exact ih (j + 1) v (by omega) q u
      refine z_iload dX7_offOf_18 rfl rfl ?_
      refine z_aload_n dX7_offOf_20 rfl rfl ?_
      refine z_gi7 (j := 14) dX7_offOf_21 (by decide) fl_X7_144 rfl rfl rfl ?_
      refine z_icmp_ge (tgt := 85) dX7_offOf_24 (by decide) rfl (fun hc => ?_) (fun hc => ?_)
      · exact absurd hc (by rw [hn]; exact nI_ge (by omega) (by omega))
      · refine z_aload_n dX7_offOf_27 rfl rfl ?_
        refine z_gr7 (j := 26) dX7_offOf_28 (by decide) fl_X7_67 rfl rfl rfl ?_
        refine z_bipush (v := 16) dX7_offOf_31 (by decide) rfl ?_
        refine z_iload_n dX7_offOf_33 rfl rfl ?_
        refine z_imul dX7_offOf_34 rfl ?_
        refine z_iload dX7_offOf_35 rfl rfl ?_
        refine z_iadd dX7_offOf_37 rfl ?_
        refine z_iald dX7_offOf_38 (by first | rfl | exact knd_h (by omega) | exact knd_s (by omega)) (show 16 * nI d + nI j = nI (16 * d + j) by rw [show (16 : Int32) = nI 16 from rfl, pk_mul, nI_add]) (by omega) (by decide) rfl ?_
        refine z_tp (b := (stI (sf d j))) es ?_
        cases hx : sf d j with
        | none =>
          refine z_ist6 dX7_offOf_39 (Nat.le_of_ble_eq_true rfl) rfl ?_
          refine z_iload dX7_offOf_41 rfl rfl ?_
          refine z_if_lt (tgt := 79) dX7_offOf_43 (by decide) rfl (fun h1 => ?_) (fun h1 => ?_)
          · exact skp _ (by rw [backS, hv, hx])
          · exact absurd (by decide) h1
        | some b =>
          have hbb := hsb d j b hx
          refine z_ist6 dX7_offOf_39 (Nat.le_of_ble_eq_true rfl) rfl ?_
          refine z_iload dX7_offOf_41 rfl rfl ?_
          refine z_if_lt (tgt := 79) dX7_offOf_43 (by decide) rfl (fun h1 => ?_) (fun h1 => ?_)
          · exact absurd h1 (nI_pos (by omega))
          · refine z_iload dX7_offOf_46 rfl rfl ?_
            refine z_iload_n dX7_offOf_48 rfl rfl ?_
            refine z_icmp_lt (tgt := 55) dX7_offOf_49 (by decide) rfl (fun h2 => ?_) (fun h2 => ?_)
            · have hlt := lt_nn h2 (by omega) (by omega)
              cases hy : bk j with
              | none =>
                have hbn : f d = none := by rw [← hf]; exact backS_none (a := j + 1) (by rw [backS, hv, hx]; simp only; rw [if_pos hlt, hy]) (by omega)
                have hoo : drS dr (lateS lim f dr) = none := by
                  unfold drS
                  rw [if_neg (by omega), lateS_none (a := d + 1) (by rw [lateS, hs9, hbn]) (by omega)]
                refine z_aload_n dX7_offOf_55 rfl rfl ?_
                refine z_gr7 (j := 11) dX7_offOf_56 (by decide) fl_X7_30 rfl rfl rfl ?_
                refine z_iload dX7_offOf_59 rfl rfl ?_
                refine z_iald dX7_offOf_61 (by first | rfl | exact knd_h (by omega) | exact knd_s (by omega)) rfl (by omega) (by decide) rfl ?_
                refine z_if_ge (tgt := 67) dX7_offOf_62 (by decide) rfl (fun h3 => ?_) (fun h3 => ?_)
                · exact absurd (by rw [hbk j hjn, hy] at h3; exact h3) (by decide)
                · rw [← hQ]
                  refine z_iconst (v := (-1)) dX7_offOf_65 (by decide) rfl ?_
                  exact z_ireturn dX7_offOf_66 rfl ⟨by rw [hoo]; rfl, rfl⟩ (Nat.le_of_ble_eq_true rfl) (Nat.le_of_ble_eq_true rfl)
              | some x =>
                have hx40 := hb40 j x hy
                have eb : M 105 j = nI x := by rw [hbk j hjn, hy]; rfl
                refine z_aload_n dX7_offOf_55 rfl rfl ?_
                refine z_gr7 (j := 11) dX7_offOf_56 (by decide) fl_X7_30 rfl rfl rfl ?_
                refine z_iload dX7_offOf_59 rfl rfl ?_
                refine z_iald dX7_offOf_61 (by first | rfl | exact knd_h (by omega) | exact knd_s (by omega)) rfl (by omega) (by decide) rfl ?_
                refine z_if_ge (tgt := 67) dX7_offOf_62 (by decide) rfl (fun h3 => ?_) (fun h3 => ?_)
                · refine z_iload dX7_offOf_67 rfl rfl ?_
                  refine z_aload_n dX7_offOf_69 rfl rfl ?_
                  refine z_gr7 (j := 11) dX7_offOf_70 (by decide) fl_X7_30 rfl rfl rfl ?_
                  refine z_iload dX7_offOf_73 rfl rfl ?_
                  refine z_iald dX7_offOf_75 (by first | rfl | exact knd_h (by omega) | exact knd_s (by omega)) rfl (by omega) (by decide) rfl ?_
                  refine z_iadd dX7_offOf_76 rfl ?_
                  refine z_tp (b := (nI (v + x))) (by rw [eb, nI_add]) ?_
                  refine z_ist4 dX7_offOf_77 (Nat.le_of_ble_eq_true rfl) rfl ?_
                  first | refine z_iu5 dX7_offOf_79 (Nat.le_of_ble_eq_true rfl) rfl ?_ | refine z_inc5 dX7_offOf_79 (Nat.le_of_ble_eq_true rfl) rfl rfl ?_
                  refine z_goto (tgt := 18) dX7_offOf_82 (by decide) ?_
                  exact ih (j + 1) (v + x) (by omega) (by rw [backS, hv, hx]; simp only; rw [if_pos hlt, hy]) _
                · rw [eb] at h3; exact absurd (nI_le (a := 0) (Nat.zero_le x) (by omega)) h3
            · have := nlt_nn h2 (by omega) (by omega)
              refine z_goto (tgt := 79) dX7_offOf_52 (by decide) ?_
              exact skp _ (by rw [backS, hv, hx]; simp only; rw [if_neg (by omega)])
  have loop : ∀ (k j s : Nat), j + k = dr → lateS lim f j = some s → ∀ (u4 u5 u6 : Option Value), Zz (zx l E mX7_offOf 1 Q) 0 0 4 [some (.ref 99), some (.int (nI h)), some (.int (nI s)), some (.int (nI j)), u4, u5, u6] [] M := by
    intro k
    induction k with
    | zero =>
      intro j s hj hs9 u4 u5 u6
      have ej : j = dr := by omega
      subst ej
      refine z_iload_n dX7_offOf_4 rfl rfl ?_
      refine z_aload_n dX7_offOf_5 rfl rfl ?_
      refine z_gi7 (j := 20) dX7_offOf_6 (by decide) fl_X7_161 rfl rfl rfl ?_
      refine z_icmp_ge (tgt := 100) dX7_offOf_9 (by decide) rfl (fun hc => ?_) (fun hc => ?_)
      · refine z_aload_n dX7_offOf_100 rfl rfl ?_
        refine z_gi7 (j := 20) dX7_offOf_101 (by decide) fl_X7_161 rfl rfl rfl ?_
        refine z_if_ne (tgt := 111) dX7_offOf_104 (by decide) rfl (fun h1 => ?_) (fun h1 => ?_)
        · have : drS j (lateS lim f j) = some s := by unfold drS; rw [if_neg (fun q => h1 (by rw [hd, q]; rfl)), hs9]
          rw [← hQ]
          refine z_iload_n dX7_offOf_111 rfl rfl ?_
          exact z_ireturn dX7_offOf_112 rfl ⟨by rw [this]; rfl, rfl⟩ (Nat.le_of_ble_eq_true rfl) (Nat.le_of_ble_eq_true rfl)
        · have : drS j (lateS lim f j) = none := by unfold drS; rw [if_pos ((nI_eq (by omega) (by decide)).mp (hd.symm.trans h1))]
          rw [← hQ]
          refine z_iconst (v := (-1)) dX7_offOf_107 (by decide) rfl ?_
          refine z_goto (tgt := 112) dX7_offOf_108 (by decide) ?_
          exact z_ireturn dX7_offOf_112 rfl ⟨by rw [this]; rfl, rfl⟩ (Nat.le_of_ble_eq_true rfl) (Nat.le_of_ble_eq_true rfl)
      · exact absurd (by rw [hd]; exact nI_le (Nat.le_refl _) (by omega)) hc
    | succ k ih =>
      intro j s hj hs9 u4 u5 u6
      refine z_iload_n dX7_offOf_4 rfl rfl ?_
      refine z_aload_n dX7_offOf_5 rfl rfl ?_
      refine z_gi7 (j := 20) dX7_offOf_6 (by decide) fl_X7_161 rfl rfl rfl ?_
      refine z_icmp_ge (tgt := 100) dX7_offOf_9 (by decide) rfl (fun hc => ?_) (fun hc => ?_)
      · exact absurd hc (by rw [hd]; exact nI_ge (by omega) (by omega))
      · refine z_iload_n dX7_offOf_12 rfl rfl ?_
        refine z_ist4 dX7_offOf_13 (Nat.le_of_ble_eq_true rfl) rfl ?_
        refine z_iconst (v := 0) dX7_offOf_15 (by decide) rfl ?_
        refine z_ist5 dX7_offOf_16 (Nat.le_of_ble_eq_true rfl) rfl ?_
        refine inn j s (by omega) hs9 (fun v u hv => ?_) n 0 h (by omega) rfl _
        have hvb := hfb j v hv
        refine z_iload_n dX7_offOf_85 rfl rfl ?_
        refine z_aload_n dX7_offOf_86 rfl rfl ?_
        refine z_iload dX7_offOf_87 rfl rfl ?_
        refine z_cv1 (ci := 7) (nf := 32) (y := mX7_late) dX7_offOf_89 ml_X7_193 iv_X7_late (Nat.le_of_ble_eq_true rfl) rfl (by decide) rfl (Nat.le_of_ble_eq_true rfl) (Nat.le_of_ble_eq_true rfl) (Nat.le_of_ble_eq_true rfl) (c_X7_late hst M (some v) lim hlm hl (fun x q => by cases q; omega)) rfl ?_
        refine z_iadd dX7_offOf_92 rfl ?_
        refine z_tp (b := (nI (s + (v - lim)))) (nI_add _ _) ?_
        refine z_ist2 dX7_offOf_93 (Nat.le_of_ble_eq_true rfl) rfl ?_
        first | refine z_iu3 dX7_offOf_94 (Nat.le_of_ble_eq_true rfl) rfl ?_ | refine z_inc3 dX7_offOf_94 (Nat.le_of_ble_eq_true rfl) rfl rfl ?_
        refine z_goto (tgt := 4) dX7_offOf_97 (by decide) ?_
        exact ih (j + 1) (s + (v - lim)) (by omega) (by rw [lateS, hs9, hv]) _ _ _
  exact loop dr 0 0 (by omega) rfl _ _ _
def sfD (B : Bw) (od : Nat → Nat) (dr : Nat) : Nat → Sch := fun d => if d < dr then schd (rowP B (d + 2)) od else s0
def efD (B : Bw) (od : Nat → Nat) (dr : Nat) : Nat → Option Nat := fun d => if d < dr then endS (rowP B (d + 2)) od else none
theorem sfD_bd {B : Bw} {od : Nat → Nat} {dr : Nat} {M : Mem} (h16 : B.1 ≤ 16) (hW : ∀ r, r < dr + 2 → WM (rowP B r) M r) (hod : ∀ k, k < B.1 → od k < B.1) : ∀ d w b, sfD B od dr d w = some b → b ≤ 100000 := fun d w b hb => by
  unfold sfD at hb
  split at hb
  · have := sch_bd (P := rowP B (d + 2)) h16 (fun k hk => hod k hk) (fun w hw => ((hW (d + 2) (by omega)).2.2.2.2 w hw).2.2.2.2.2.2) hb
    omega
  · cases hb
theorem efD_bd {B : Bw} {od : Nat → Nat} {dr : Nat} {M : Mem} (h16 : B.1 ≤ 16) (hW : ∀ r, r < dr + 2 → WM (rowP B r) M r) (hod : ∀ k, k < B.1 → od k < B.1) : ∀ d x, efD B od dr d = some x → x ≤ 100000 := fun d x hx => by
  unfold efD at hx
  split at hx
  · have := end_bd (P := rowP B (d + 2)) h16 (fun k hk => hod k hk) (fun w hw => ((hW (d + 2) (by omega)).2.2.2.2 w hw).2.2.2.2.2.2) hx
    omega
  · cases hx
set_option maxHeartbeats 4000000 in
theorem c_X7_off {l : Launch} {E : EnT} (hst : l.stackTraces = false) (M : Mem) (B : Bw) (od : Nat → Nat) (dr lim : Nat) (bk : Nat → Option Nat) (x : Int32) (hn : M 99 14 = nI B.1) (hd : M 99 20 = nI dr) (h20 : dr ≤ 20) (hW : ∀ r, r < dr + 2 → WM (rowP B r) M r) (hod : ∀ k, k < B.1 → M 107 k = nI (od k) ∧ od k < B.1) (hlm : M 99 16 = nI lim) (hl : lim ≤ 1000) (hbk : ∀ w, w < B.1 → M 105 w = enI (bk w)) (hb40 : ∀ w x, bk w = some x → x ≤ 40) : Mm l E mX7_off 3 0 0 [.ref 99, .int x] M (RP (some (.int (if ixB x 1001 then enI (offS dr lim B.1 (sfD B od dr) bk x.toNatClampNeg) else 0))) (fun N => Eqx Se M N ∧ N 99 0 = if ixB x 1001 then 0 else 1)) := by
  have h16 : B.1 ≤ 16 := (hW 0 (by omega)).2.1
  have e0 : Eqx Se M (mu M 99 0 0) := Eqx.rf.mu (by unfold Se; omega)
  refine Mm_go hst (by decide) rfl (Nat.le_of_ble_eq_true rfl) [some (.ref 99), some (.int x)] rfl ?_
  rcases ixB_cases x (n := 1001) (by decide) with ⟨hb, h⟩ | ⟨j, hj, rfl, hb⟩
  · rw [hb]
    have bd : Zz (zx l E mX7_off 3 (RP (some (.int (if false = true then enI (offS dr lim B.1 (sfD B od dr) bk x.toNatClampNeg) else 0))) (fun N => Eqx Se M N ∧ N 99 0 = if false = true then 0 else 1))) 0 0 17 [some (.ref 99), some (.int x)] [.ref 99] (mu M 99 0 0) := by
      refine z_iconst (v := 1) dX7_off_17 (by decide) rfl ?_
      refine z_goto (tgt := 22) dX7_off_18 (by decide) ?_
      refine z_iconst (v := 1) dX7_off_22 (by decide) rfl ?_
      refine z_cv2 (ci := 7) (nf := 32) (y := mX7_bad) dX7_off_23 ml_X7_154 iv_X7_bad (Nat.le_of_ble_eq_true rfl) rfl (by decide) rfl (Nat.le_of_ble_eq_true rfl) (Nat.le_of_ble_eq_true rfl) (Nat.le_of_ble_eq_true rfl) (c_X7_bad1 hst 1 _) rfl ?_
      refine z_if_eq (tgt := 31) dX7_off_26 (by decide) rfl (fun h2 => ?_) (fun h2 => ?_)
      · exact absurd h2 (by decide)
      · refine z_iconst (v := 0) dX7_off_29 (by decide) rfl ?_
        exact z_ireturn dX7_off_30 rfl ⟨rfl, e0.mu (by unfold Se; omega), rfl⟩ (Nat.le_of_ble_eq_true rfl) (Nat.le_of_ble_eq_true rfl)
    refine z_aload_n dX7_off_0 rfl rfl ?_
    refine z_iconst (v := 0) dX7_off_1 (by decide) rfl ?_
    refine z_pi7 (j := 0) dX7_off_2 (by decide) fl_X7_79 rfl rfl rfl rfl rfl ?_
    refine z_aload_n dX7_off_5 rfl rfl ?_
    refine z_iload_n dX7_off_6 rfl rfl ?_
    refine z_if_lt (tgt := 17) dX7_off_7 (by decide) rfl (fun h1 => ?_) (fun h1 => ?_)
    · exact bd
    · refine z_iload_n dX7_off_10 rfl rfl ?_
      refine z_sipush (v := 1000) dX7_off_11 (by decide) rfl ?_
      refine z_icmp_le (tgt := 21) dX7_off_14 (by decide) rfl (fun h2 => ?_) (fun h2 => ?_)
      · exact absurd (h.resolve_left h1) (fun q => by rw [Int32.le_iff_toInt_le] at h2 q; rw [nI_toInt (by decide)] at q; have e : (1000 : Int32).toInt = 1000 := rfl; omega)
      · exact bd
  · rw [hb, nI_clamp (show j < 2 ^ 31 by omega)]
    refine z_aload_n dX7_off_0 rfl rfl ?_
    refine z_iconst (v := 0) dX7_off_1 (by decide) rfl ?_
    refine z_pi7 (j := 0) dX7_off_2 (by decide) fl_X7_79 rfl rfl rfl rfl rfl ?_
    refine z_aload_n dX7_off_5 rfl rfl ?_
    refine z_iload_n dX7_off_6 rfl rfl ?_
    refine z_if_lt (tgt := 17) dX7_off_7 (by decide) rfl (fun h1 => ?_) (fun h1 => ?_)
    · exact absurd h1 (nI_pos (by omega))
    · refine z_iload_n dX7_off_10 rfl rfl ?_
      refine z_sipush (v := 1000) dX7_off_11 (by decide) rfl ?_
      refine z_icmp_le (tgt := 21) dX7_off_14 (by decide) rfl (fun h2 => ?_) (fun h2 => ?_)
      · refine z_iconst (v := 0) dX7_off_21 (by decide) rfl ?_
        refine z_iconst (v := 1) dX7_off_22 (by decide) rfl ?_
        refine z_cv2 (ci := 7) (nf := 32) (y := mX7_bad) dX7_off_23 ml_X7_154 iv_X7_bad (Nat.le_of_ble_eq_true rfl) rfl (by decide) rfl (Nat.le_of_ble_eq_true rfl) (Nat.le_of_ble_eq_true rfl) (Nat.le_of_ble_eq_true rfl) (c_X7_bad0 hst 1 _) rfl ?_
        refine z_if_eq (tgt := 31) dX7_off_26 (by decide) rfl (fun h3 => ?_) (fun h3 => ?_)
        · refine z_aload_n dX7_off_31 rfl rfl ?_
          refine z_cq0 (ci := 7) (nf := 32) (y := mX7_onOf) dX7_off_32 ml_X7_196 iv_X7_onOf (Nat.le_of_ble_eq_true rfl) rfl (by decide) rfl (Nat.le_of_ble_eq_true rfl) (Nat.le_of_ble_eq_true rfl) (Nat.le_of_ble_eq_true rfl) (c_X7_onOf hst (mu M 99 0 0) B od dr lim hd h20 (fun r hr => (hW r hr).keepE e0) hod hlm hl) rfl ?_
          intro N ⟨hE, hB⟩
          have hE2 : Eqx Se M N := e0.tr (hE.mono (fun a b q => by unfold Se; omega))
          refine z_pop dX7_off_35 rfl rfl ?_
          refine z_aload_n dX7_off_36 rfl rfl ?_
          refine z_iload_n dX7_off_37 rfl rfl ?_
          refine z_cv1 (ci := 7) (nf := 32) (y := mX7_offOf) dX7_off_38 ml_X7_199 iv_X7_offOf (Nat.le_of_ble_eq_true rfl) rfl (by decide) rfl (Nat.le_of_ble_eq_true rfl) (Nat.le_of_ble_eq_true rfl) (Nat.le_of_ble_eq_true rfl) (c_X7_offOf hst N B.1 j dr lim (sfD B od dr) bk ⟨by rw [hE2 99 20 (by unfold Se; omega)]; exact hd, h20, hl, by rw [hE2 99 14 (by unfold Se; omega)]; exact hn, h16, fun d w hd hw => by unfold sfD; rw [if_pos hd]; exact hB d hd w hw, sfD_bd h16 hW (fun k hk => (hod k hk).2), fun w hw => by rw [hE2 105 w (by unfold Se; omega)]; exact hbk w hw, hb40, by rw [hE2 99 16 (by unfold Se; omega)]; exact hlm⟩ (by omega)) rfl ?_
          exact z_ireturn dX7_off_41 rfl ⟨rfl, hE2, by rw [hE 99 0 (by omega)]; rfl⟩ (Nat.le_of_ble_eq_true rfl) (Nat.le_of_ble_eq_true rfl)
        · exact absurd rfl h3
      · exact absurd (nI_le (a := j) (b := 1000) (by omega) (by decide)) h2
/-- the first below, seen from above -/
def lnN (p : Nat → Bool) : Nat → Option Nat
  | 0 => none
  | h + 1 => if p h = true then some h else lnN p h
set_option maxHeartbeats 4000000 in
theorem c_X7_last {l : Launch} {E : EnT} (hst : l.stackTraces = false) (M : Mem) (B : Bw) (od : Nat → Nat) (dr lim : Nat) (bk : Nat → Option Nat) (hn : M 99 14 = nI B.1) (hd : M 99 20 = nI dr) (h20 : dr ≤ 20) (hW : ∀ r, r < dr + 2 → WM (rowP B r) M r) (hod : ∀ k, k < B.1 → M 107 k = nI (od k) ∧ od k < B.1) (hlm : M 99 16 = nI lim) (hl : lim ≤ 1000) (hbk : ∀ w, w < B.1 → M 105 w = enI (bk w)) (hb40 : ∀ w x, bk w = some x → x ≤ 40) : Mm l E mX7_last 3 0 0 [.ref 99] M (RP (some (.int (enI (lnN (fun h => held (drS dr (lateS lim (efD B od dr) dr)) (offS dr lim B.1 (sfD B od dr) bk h)) 1001)))) (fun N => Eqx Se M N ∧ N 99 0 = 0)) := by
  have h16 : B.1 ≤ 16 := (hW 0 (by omega)).2.1
  have e0 : Eqx Se M (mu M 99 0 0) := Eqx.rf.mu (by unfold Se; omega)
  refine Mm_go hst (by decide) rfl (Nat.le_of_ble_eq_true rfl) [some (.ref 99), none, none, none] rfl ?_
  refine z_aload_n dX7_last_0 rfl rfl ?_
  refine z_iconst (v := 0) dX7_last_1 (by decide) rfl ?_
  refine z_pi7 (j := 0) dX7_last_2 (by decide) fl_X7_79 rfl rfl rfl rfl rfl ?_
  refine z_aload_n dX7_last_5 rfl rfl ?_
  refine z_cq0 (ci := 7) (nf := 32) (y := mX7_onOf) dX7_last_6 ml_X7_196 iv_X7_onOf (Nat.le_of_ble_eq_true rfl) rfl (by decide) rfl (Nat.le_of_ble_eq_true rfl) (Nat.le_of_ble_eq_true rfl) (Nat.le_of_ble_eq_true rfl) (c_X7_onOf hst (mu M 99 0 0) B od dr lim hd h20 (fun r hr => (hW r hr).keepE e0) hod hlm hl) rfl ?_
  intro N ⟨hE, hB⟩
  have hE2 : Eqx Se M N := e0.tr (hE.mono (fun a b q => by unfold Se; omega))
  have hE0 : N 99 0 = 0 := by rw [hE 99 0 (by omega)]; rfl
  have hO : OffM N B.1 dr lim (sfD B od dr) bk := ⟨by rw [hE2 99 20 (by unfold Se; omega)]; exact hd, h20, hl, by rw [hE2 99 14 (by unfold Se; omega)]; exact hn, h16, fun d w hd hw => by unfold sfD; rw [if_pos hd]; exact hB d hd w hw, sfD_bd h16 hW (fun k hk => (hod k hk).2), fun w hw => by rw [hE2 105 w (by unfold Se; omega)]; exact hbk w hw, hb40, by rw [hE2 99 16 (by unfold Se; omega)]; exact hlm⟩
  have hob : ∀ y, drS dr (lateS lim (efD B od dr) dr) = some y → y ≤ 10000000 := fun y hy => by
    unfold drS at hy
    split at hy
    · cases hy
    · have := lateS_bd (m := 100000) (efD_bd h16 hW (fun k hk => (hod k hk).2)) hy
      omega
  rw [show (fun d => if d < dr then endS (rowP B (d + 2)) od else none) = efD B od dr from rfl]
  generalize drS dr (lateS lim (efD B od dr) dr) = on at hob ⊢
  generalize sfD B od dr = sf at hO ⊢
  generalize hp : (fun h => held on (offS dr lim B.1 sf bk h)) = p
  refine z_ist1 dX7_last_9 (Nat.le_of_ble_eq_true rfl) rfl ?_
  refine z_sipush (v := 1000) dX7_last_10 (by decide) rfl ?_
  refine z_ist2 dX7_last_13 (Nat.le_of_ble_eq_true rfl) rfl ?_
  have loop : ∀ (h : Nat), h ≤ 1000 → ∀ (u : Option Value), (∀ (u : Option Value), Zz (zx l E mX7_last 3 (RP (some (.int (enI (lnN p h)))) (fun N => Eqx Se M N ∧ N 99 0 = 0))) 0 0 14 [some (.ref 99), some (.int (enI on)), some (.int (nI h + (-1))), u] [] N) → Zz (zx l E mX7_last 3 (RP (some (.int (enI (lnN p (h + 1))))) (fun N => Eqx Se M N ∧ N 99 0 = 0))) 0 0 14 [some (.ref 99), some (.int (enI on)), some (.int (nI h)), u] [] N := by
    intro h hh u ih
    refine z_iload_n dX7_last_14 rfl rfl ?_
    refine z_if_lt (tgt := 45) dX7_last_15 (by decide) rfl (fun g1 => ?_) (fun g1 => ?_)
    · exact absurd g1 (nI_pos (by omega))
    · refine z_aload_n dX7_last_18 rfl rfl ?_
      refine z_iload_n dX7_last_19 rfl rfl ?_
      refine z_cv1 (ci := 7) (nf := 32) (y := mX7_offOf) dX7_last_20 ml_X7_199 iv_X7_offOf (Nat.le_of_ble_eq_true rfl) rfl (by decide) rfl (Nat.le_of_ble_eq_true rfl) (Nat.le_of_ble_eq_true rfl) (Nat.le_of_ble_eq_true rfl) (c_X7_offOf hst N B.1 h dr lim sf bk hO hh) rfl ?_
      have hph : p h = held on (offS dr lim B.1 sf bk h) := by rw [← hp]
      have nx : ∀ u, p h = false → Zz (zx l E mX7_last 3 (RP (some (.int (enI (lnN p (h + 1))))) (fun N => Eqx Se M N ∧ N 99 0 = 0))) 0 0 39 [some (.ref 99), some (.int (enI on)), some (.int (nI h)), u] [] N := fun u q => by
        refine z_inc2 dX7_last_39 (Nat.le_of_ble_eq_true rfl) rfl rfl ?_
        refine z_goto (tgt := 14) dX7_last_42 (by decide) ?_
        rw [show lnN p (h + 1) = lnN p h from by rw [lnN, q]; rfl]
        exact ih u
      have rt : ∀ u, p h = true → Zz (zx l E mX7_last 3 (RP (some (.int (enI (lnN p (h + 1))))) (fun N => Eqx Se M N ∧ N 99 0 = 0))) 0 0 37 [some (.ref 99), some (.int (enI on)), some (.int (nI h)), u] [] N := fun u q => by
        refine z_iload_n dX7_last_37 rfl rfl ?_
        exact z_ireturn dX7_last_38 rfl ⟨by rw [lnN, if_pos q]; rfl, hE2, hE0⟩ (Nat.le_of_ble_eq_true rfl) (Nat.le_of_ble_eq_true rfl)
      cases hx : offS dr lim B.1 sf bk h with
      | none =>
        refine z_ist3 dX7_last_23 (Nat.le_of_ble_eq_true rfl) rfl ?_
        refine z_iload_n dX7_last_24 rfl rfl ?_
        refine z_if_lt (tgt := 39) dX7_last_25 (by decide) rfl (fun g2 => ?_) (fun g2 => ?_)
        · exact nx _ (by rw [hph, hx]; rfl)
        · exact absurd (by decide) g2
      | some x =>
        have hxb := offS_bd h20 h16 hh hb40 hx
        refine z_ist3 dX7_last_23 (Nat.le_of_ble_eq_true rfl) rfl ?_
        refine z_iload_n dX7_last_24 rfl rfl ?_
        refine z_if_lt (tgt := 39) dX7_last_25 (by decide) rfl (fun g2 => ?_) (fun g2 => ?_)
        · exact absurd g2 (nI_pos (by omega))
        · cases hy : on with
          | none =>
            rw [hy] at rt hph
            refine z_iload_n dX7_last_28 rfl rfl ?_
            refine z_if_lt (tgt := 37) dX7_last_29 (by decide) rfl (fun g3 => ?_) (fun g3 => ?_)
            · exact rt _ (by rw [hph, hx]; rfl)
            · exact absurd (by decide) g3
          | some y =>
            have hyb := hob y hy
            rw [hy] at rt nx hph
            refine z_iload_n dX7_last_28 rfl rfl ?_
            refine z_if_lt (tgt := 37) dX7_last_29 (by decide) rfl (fun g3 => ?_) (fun g3 => ?_)
            · exact absurd g3 (nI_pos (by omega))
            · refine z_iload_n dX7_last_32 rfl rfl ?_
              refine z_iload_n dX7_last_33 rfl rfl ?_
              refine z_icmp_gt (tgt := 39) dX7_last_34 (by decide) rfl (fun g4 => ?_) (fun g4 => ?_)
              · have := lt_nn g4 (by omega) (by omega)
                exact nx _ (by rw [hph, hx]; simp only [held]; rw [decide_eq_false (by omega)])
              · have := nlt_nn g4 (by omega) (by omega)
                exact rt _ (by rw [hph, hx]; simp only [held]; rw [decide_eq_true (by omega)])
  have all : ∀ (h : Nat), h ≤ 1001 → ∀ (u : Option Value), Zz (zx l E mX7_last 3 (RP (some (.int (enI (lnN p h)))) (fun N => Eqx Se M N ∧ N 99 0 = 0))) 0 0 14 [some (.ref 99), some (.int (enI on)), some (.int (nI h + (-1))), u] [] N := by
    intro h
    induction h with
    | zero =>
      intro _ u
      refine z_iload_n dX7_last_14 rfl rfl ?_
      refine z_if_lt (tgt := 45) dX7_last_15 (by decide) rfl (fun g1 => ?_) (fun g1 => ?_)
      · refine z_iconst (v := (-1)) dX7_last_45 (by decide) rfl ?_
        exact z_ireturn dX7_last_46 rfl ⟨rfl, hE2, hE0⟩ (Nat.le_of_ble_eq_true rfl) (Nat.le_of_ble_eq_true rfl)
      · exact absurd (by decide) g1
    | succ h ih =>
      intro hh u
      rw [show nI (h + 1) + (-1) = nI h from by rw [← nI_1, Int32.add_assoc, show (1 : Int32) + (-1) = 0 from rfl, Int32.add_zero]]
      exact loop h (by omega) u (ih (by omega))
  have q := all 1001 (by decide) none
  rw [show nI 1001 + (-1) = (1000 : Int32) from by decide] at q
  exact q
